-- X12_known 0 i
def km348_c : fx_C := ([.inr (.inr 1), .inl (-1, 8)], [((0, 7), .inl (0, 1600))], [(some (.inl (0, 0)), [.inr (.inr 1), .inl (-1, 8)], [((0, 7), .inl (0, 1600))]), (some (.inl (0, 8)), [.inr (.inr 1), .inl (0, 8)], [((0, 4), .inl (0, 2147483647)), ((0, 7), .inl (0, 1600))])], [(12, 4), (12, 5), (12, 6), (12, 7), (12, 8), (12, 9), (12, 10)])
def km348_a : List fx_N := []
def km348_s : List fx_D := []
def km348_x : fx_X := ([], [(206, 12, 6), (213, 12, 8)], [], [], [], [(1, 241, 12, km344_c), (18, 248, 12, km346_c), (34, 237, 12, km345_c), (41, 245, 12, km343_c)])
set_option maxRecDepth 100000 in
theorem km348_k : fx_chk TM 2 km348_c 0 km348_x t_X12_known km348_a km348_s 22 = true := by decide +kernel
set_option maxRecDepth 100000 in
theorem km348 {l : Launch} {E : (Nat → Prop) → State → Prop} {ad : List Nat} {D : va_G} {cy : Nat → ClassId} (h : fx_env E D classes (tys cy) nestW) : fx_Met l yX12_known (.code yX12_known cX12_known 2 (some .int) :: wsL_law) ({ frames := 2, cells := 0, slots := 0, locals := 44 }) E (gsM, TM, cy, fun _ => True) ad D classes km348_c :=
  fx_sound (x := km348_x) (tb := t_X12_known) (an := km348_a) (sp := km348_s) (rk := 0) 22 h (fun _ _ _ _ _ _ => trivial) (fun _ _ _ _ _ _ => trivial) (ht_tys cy) (by decide) rfl ⟨fx_an, (fx_ac fl_X12_206 (fx_ac fl_X12_213 (fx_an))), fx_an, fx_an, fx_an, (fx_ac (ev_V (km344 h) (by decide) rfl ⟨by decide, by decide⟩ iV_X12_isGood g_X12_241) (fx_ac (ev_V (km346 h) (by decide) rfl ⟨by decide, by decide⟩ iV_X12_misplaced g_X12_248) (fx_ac (ev_V (km345 h) (by decide) rfl ⟨by decide, by decide⟩ iV_X12_fails g_X12_237) (fx_ac (ev_V (km343 h) (by decide) rfl ⟨by decide, by decide⟩ iV_X12_goOn g_X12_245) (fx_an)))))⟩ d_X12_known km348_k
-- X12_isSignHere 0 i
def km349_c : fx_C := ([.inr (.inr 1), .inl (-2147483648, 2147483647)], [], [(some (.inl (1, 1)), [.inr (.inr 1), .inl (0, 255)], [((0, 8), .inl (5, 5))]), (some (.inl (0, 0)), [.inr (.inr 1), .inl (-2147483648, 2147483647)], [])], [])
def km349_a : List fx_N := []
def km349_s : List fx_D := []
def km349_x : fx_X := ([], [(206, 12, 6), (213, 12, 8)], [], [], [], [(13, 209, 12, km338_c)])
set_option maxRecDepth 100000 in
theorem km349_k : fx_chk TM 2 km349_c 3 km349_x t_X12_isSignHere km349_a km349_s 15 = true := by decide +kernel
set_option maxRecDepth 100000 in
theorem km349 {l : Launch} {E : (Nat → Prop) → State → Prop} {ad : List Nat} {D : va_G} {cy : Nat → ClassId} (h : fx_env E D classes (tys cy) nestW) : fx_Met l yX12_isSignHere (.code yX12_isSignHere cX12_isSignHere 2 (some .boolean) :: wsL_law) ({ frames := 1, cells := 0, slots := 0, locals := 21 }) E (gsM, TM, cy, fun _ => True) ad D classes km349_c :=
  fx_sound (x := km349_x) (tb := t_X12_isSignHere) (an := km349_a) (sp := km349_s) (rk := 3) 15 h (fun _ _ _ _ _ _ => trivial) (fun _ _ _ _ _ _ => trivial) (ht_tys cy) (by decide) rfl ⟨fx_an, (fx_ac fl_X12_206 (fx_ac fl_X12_213 (fx_an))), fx_an, fx_an, fx_an, (fx_ac (ev_V (km338 h) (by decide) rfl ⟨by decide, by decide⟩ iV_X12_sign g_X12_209) (fx_an))⟩ d_X12_isSignHere km349_k
-- X12_isWord 0 l
def km350_c : fx_C := ([.inr (.inr 1), .inr (.inl (-9223372036854775808, 9223372036854775807))], [], [(some (.inl (0, 0)), [.inr (.inr 1), .inr (.inl (-9223372036854775808, 9223372036854775807))], []), (some (.inl (1, 1)), [.inr (.inr 1), .inr (.inl (-9223372036854775808, 9223372036854775807))], [((0, 8), .inl (3, 3))])], [])
def km350_a : List fx_N := []
def km350_s : List fx_D := []
def km350_x : fx_X := ([], [(213, 12, 8), (220, 12, 10)], [], [], [], [])
set_option maxRecDepth 100000 in
theorem km350_k : fx_chk TM 3 km350_c 3 km350_x t_X12_isWord km350_a km350_s 14 = true := by decide +kernel
set_option maxRecDepth 100000 in
theorem km350 {l : Launch} {E : (Nat → Prop) → State → Prop} {ad : List Nat} {D : va_G} {cy : Nat → ClassId} (h : fx_env E D classes (tys cy) nestW) : fx_Met l yX12_isWord (.code yX12_isWord cX12_isWord 3 (some .boolean) :: wsL_law) ({ frames := 0, cells := 0, slots := 0, locals := 0 }) E (gsM, TM, cy, fun _ => True) ad D classes km350_c :=
  fx_sound (x := km350_x) (tb := t_X12_isWord) (an := km350_a) (sp := km350_s) (rk := 3) 14 h (fun _ _ _ _ _ _ => trivial) (fun _ _ _ _ _ _ => trivial) (ht_tys cy) (by decide) rfl ⟨fx_an, (fx_ac fl_X12_213 (fx_ac fl_X12_220 (fx_an))), fx_an, fx_an, fx_an, fx_an⟩ d_X12_isWord km350_k
-- X12_wordHere 0
def km351_c : fx_C := ([.inr (.inr 1)], [], [(some (.inl (0, 119)), [.inr (.inr 1)], [])], [])
def km351_a : List fx_N := []
def km351_s : List fx_D := []
def km351_x : fx_X := ([], [], [], [], [(175, 512970880104), (187, 482854658917), (189, 1936292453), (191, 499984983411), (193, 1818584692), (195, 491394656372)], [(4, 251, 12, km350_c), (17, 251, 12, km350_c), (30, 251, 12, km350_c), (43, 251, 12, km350_c), (56, 251, 12, km350_c), (69, 251, 12, km350_c)])
set_option maxRecDepth 100000 in
theorem km351_k : fx_chk TM 1 km351_c 0 km351_x t_X12_wordHere km351_a km351_s 29 = true := by decide +kernel
set_option maxRecDepth 100000 in
theorem km351 {l : Launch} {E : (Nat → Prop) → State → Prop} {ad : List Nat} {D : va_G} {cy : Nat → ClassId} (h : fx_env E D classes (tys cy) nestW) : fx_Met l yX12_wordHere (.code yX12_wordHere cX12_wordHere 1 (some .int) :: wsL_law) ({ frames := 1, cells := 0, slots := 0, locals := 22 }) E (gsM, TM, cy, fun _ => True) ad D classes km351_c :=
  fx_sound (x := km351_x) (tb := t_X12_wordHere) (an := km351_a) (sp := km351_s) (rk := 0) 29 h (fun _ _ _ _ _ _ => trivial) (fun _ _ _ _ _ _ => trivial) (ht_tys cy) (by decide) rfl ⟨fx_an, fx_an, fx_an, fx_an, (fx_ac kc_X12_175 (fx_ac kc_X12_187 (fx_ac kc_X12_189 (fx_ac kc_X12_191 (fx_ac kc_X12_193 (fx_ac kc_X12_195 (fx_an))))))), (fx_ac (ev_V (km350 h) (by decide) rfl ⟨by decide, by decide⟩ iV_X12_isWord g_X12_251) (fx_ac (ev_V (km350 h) (by decide) rfl ⟨by decide, by decide⟩ iV_X12_isWord g_X12_251) (fx_ac (ev_V (km350 h) (by decide) rfl ⟨by decide, by decide⟩ iV_X12_isWord g_X12_251) (fx_ac (ev_V (km350 h) (by decide) rfl ⟨by decide, by decide⟩ iV_X12_isWord g_X12_251) (fx_ac (ev_V (km350 h) (by decide) rfl ⟨by decide, by decide⟩ iV_X12_isWord g_X12_251) (fx_ac (ev_V (km350 h) (by decide) rfl ⟨by decide, by decide⟩ iV_X12_isWord g_X12_251) (fx_an)))))))⟩ d_X12_wordHere km351_k
-- X12_rankHere 0
def km352_c : fx_C := ([.inr (.inr 1)], [], [(some (.inl (2, 2)), [.inr (.inr 1)], [((0, 8), .inl (3, 3))]), (some (.inl (1, 1)), [.inr (.inr 1)], [((0, 8), .inl (3, 3))]), (some (.inl (0, 0)), [.inr (.inr 1)], []), (some (.inl (6, 6)), [.inr (.inr 1)], [((0, 8), .inl (5, 5))]), (some (.inl (5, 5)), [.inr (.inr 1)], [((0, 8), .inl (5, 5))]), (some (.inl (4, 4)), [.inr (.inr 1)], [((0, 8), .inl (5, 5))])], [])
def km352_a : List fx_N := []
def km352_s : List fx_D := []
def km352_x : fx_X := ([], [], [], [], [(197, 28530), (199, 6385252)], [(4, 251, 12, km350_c), (16, 251, 12, km350_c), (27, 262, 12, km349_c), (36, 262, 12, km349_c), (45, 262, 12, km349_c), (56, 262, 12, km349_c), (65, 262, 12, km349_c), (76, 262, 12, km349_c), (85, 262, 12, km349_c), (94, 262, 12, km349_c)])
set_option maxRecDepth 100000 in
theorem km352_k : fx_chk TM 1 km352_c 0 km352_x t_X12_rankHere km352_a km352_s 45 = true := by decide +kernel
set_option maxRecDepth 100000 in
theorem km352 {l : Launch} {E : (Nat → Prop) → State → Prop} {ad : List Nat} {D : va_G} {cy : Nat → ClassId} (h : fx_env E D classes (tys cy) nestW) : fx_Met l yX12_rankHere (.code yX12_rankHere cX12_rankHere 1 (some .int) :: wsL_law) ({ frames := 2, cells := 0, slots := 0, locals := 42 }) E (gsM, TM, cy, fun _ => True) ad D classes km352_c :=
  fx_sound (x := km352_x) (tb := t_X12_rankHere) (an := km352_a) (sp := km352_s) (rk := 0) 45 h (fun _ _ _ _ _ _ => trivial) (fun _ _ _ _ _ _ => trivial) (ht_tys cy) (by decide) rfl ⟨fx_an, fx_an, fx_an, fx_an, (fx_ac kc_X12_197 (fx_ac kc_X12_199 (fx_an))), (fx_ac (ev_V (km350 h) (by decide) rfl ⟨by decide, by decide⟩ iV_X12_isWord g_X12_251) (fx_ac (ev_V (km350 h) (by decide) rfl ⟨by decide, by decide⟩ iV_X12_isWord g_X12_251) (fx_ac (ev_V (km349 h) (by decide) rfl ⟨by decide, by decide⟩ iV_X12_isSignHere g_X12_262) (fx_ac (ev_V (km349 h) (by decide) rfl ⟨by decide, by decide⟩ iV_X12_isSignHere g_X12_262) (fx_ac (ev_V (km349 h) (by decide) rfl ⟨by decide, by decide⟩ iV_X12_isSignHere g_X12_262) (fx_ac (ev_V (km349 h) (by decide) rfl ⟨by decide, by decide⟩ iV_X12_isSignHere g_X12_262) (fx_ac (ev_V (km349 h) (by decide) rfl ⟨by decide, by decide⟩ iV_X12_isSignHere g_X12_262) (fx_ac (ev_V (km349 h) (by decide) rfl ⟨by decide, by decide⟩ iV_X12_isSignHere g_X12_262) (fx_ac (ev_V (km349 h) (by decide) rfl ⟨by decide, by decide⟩ iV_X12_isSignHere g_X12_262) (fx_ac (ev_V (km349 h) (by decide) rfl ⟨by decide, by decide⟩ iV_X12_isSignHere g_X12_262) (fx_an)))))))))))⟩ d_X12_rankHere km352_k
-- X12_numeral 0 i i
def km353_c : fx_C := ([.inr (.inr 1), .inl (0, 0), .inl (0, 999)], [((0, 7), .inl (0, 1600))], [(some (.inl (0, 0)), [.inr (.inr 1), .inl (0, 0), .inl (0, 999)], [((0, 7), .inl (0, 1600))]), (some (.inl (-2147483648, 2147483647)), [.inr (.inr 1), .inl (0, 0), .inl (0, 999)], [((0, 4), .inl (0, 0)), ((0, 7), .inl (0, 1600))])], [(12, 4), (12, 5), (12, 6), (12, 7), (12, 8), (12, 9), (12, 10)])
def km353_a : List fx_N := []
def km353_s : List fx_D := []
def km353_x : fx_X := ([], [(206, 12, 6), (213, 12, 8), (231, 12, 9)], [], [], [], [(1, 241, 12, km344_c), (18, 248, 12, km346_c), (22, 241, 12, km344_c), (50, 237, 12, km345_c), (59, 241, 12, km344_c), (66, 245, 12, km343_c), (70, 241, 12, km344_c)])
set_option maxRecDepth 100000 in
theorem km353_k : fx_chk TM 4 km353_c 0 km353_x t_X12_numeral km353_a km353_s 41 = true := by decide +kernel
set_option maxRecDepth 100000 in
theorem km353 {l : Launch} {E : (Nat → Prop) → State → Prop} {ad : List Nat} {D : va_G} {cy : Nat → ClassId} (h : fx_env E D classes (tys cy) nestW) : fx_Met l yX12_numeral (.code yX12_numeral cX12_numeral 4 (some .int) :: wsL_law) ({ frames := 2, cells := 0, slots := 0, locals := 44 }) E (gsM, TM, cy, fun _ => True) ad D classes km353_c :=
  fx_sound (x := km353_x) (tb := t_X12_numeral) (an := km353_a) (sp := km353_s) (rk := 0) 41 h (fun _ _ _ _ _ _ => trivial) (fun _ _ _ _ _ _ => trivial) (ht_tys cy) (by decide) rfl ⟨fx_an, (fx_ac fl_X12_206 (fx_ac fl_X12_213 (fx_ac fl_X12_231 (fx_an)))), fx_an, fx_an, fx_an, (fx_ac (ev_V (km344 h) (by decide) rfl ⟨by decide, by decide⟩ iV_X12_isGood g_X12_241) (fx_ac (ev_V (km346 h) (by decide) rfl ⟨by decide, by decide⟩ iV_X12_misplaced g_X12_248) (fx_ac (ev_V (km344 h) (by decide) rfl ⟨by decide, by decide⟩ iV_X12_isGood g_X12_241) (fx_ac (ev_V (km345 h) (by decide) rfl ⟨by decide, by decide⟩ iV_X12_fails g_X12_237) (fx_ac (ev_V (km344 h) (by decide) rfl ⟨by decide, by decide⟩ iV_X12_isGood g_X12_241) (fx_ac (ev_V (km343 h) (by decide) rfl ⟨by decide, by decide⟩ iV_X12_goOn g_X12_245) (fx_ac (ev_V (km344 h) (by decide) rfl ⟨by decide, by decide⟩ iV_X12_isGood g_X12_241) (fx_an))))))))⟩ d_X12_numeral km353_k
