-- X12_known 0 i
def km297_c : fx_C := ([.inr (.inr 1), .inl (-1, 8)], [((0, 7), .inl (0, 1600))], [(some (.inl (0, 0)), [.inr (.inr 1), .inl (-1, 8)], [((0, 4), .inl (1, 5)), ((0, 7), .inl (0, 1600))]), (some (.inl (0, 8)), [.inr (.inr 1), .inl (0, 8)], [((0, 7), .inl (0, 1600))])], [(12, 4), (12, 5), (12, 6), (12, 7), (12, 8), (12, 9), (12, 10)])
def km297_a : List fx_N := []
def km297_s : List fx_D := []
def km297_x : fx_X := ([], [(206, 12, 6), (213, 12, 8)], [], [], [], [(1, 241, 12, km293_c), (18, 248, 12, km295_c), (34, 237, 12, km294_c), (41, 245, 12, km292_c)])
set_option maxRecDepth 100000 in
theorem km297_k : fx_chk TM 2 km297_c 0 km297_x t_X12_known km297_a km297_s 22 = true := by decide +kernel
set_option maxRecDepth 100000 in
theorem km297 {l : Launch} {E : (Nat → Prop) → State → Prop} {ad : List Nat} {D : va_G} {cy : Nat → ClassId} (h : fx_env E D classes (tys cy) nestW) : fx_Met l yX12_known (.code yX12_known cX12_known 2 (some .int) :: wsL_law) ({ frames := 2, cells := 0, slots := 0, locals := 44 }) E (gsM, TM, cy, fun _ => True) ad D classes km297_c :=
  fx_sound (x := km297_x) (tb := t_X12_known) (an := km297_a) (sp := km297_s) (rk := 0) 22 h (fun _ _ _ _ _ _ => trivial) (fun _ _ _ _ _ _ => trivial) (ht_tys cy) (by decide) rfl ⟨fx_an, (fx_ac fl_X12_206 (fx_ac fl_X12_213 (fx_an))), fx_an, fx_an, fx_an, (fx_ac (ev_V (km293 h) (by decide) rfl ⟨by decide, by decide⟩ iV_X12_isGood g_X12_241) (fx_ac (ev_V (km295 h) (by decide) rfl ⟨by decide, by decide⟩ iV_X12_misplaced g_X12_248) (fx_ac (ev_V (km294 h) (by decide) rfl ⟨by decide, by decide⟩ iV_X12_fails g_X12_237) (fx_ac (ev_V (km292 h) (by decide) rfl ⟨by decide, by decide⟩ iV_X12_goOn g_X12_245) (fx_an)))))⟩ d_X12_known km297_k
-- X12_isSignHere 0 i
def km298_c : fx_C := ([.inr (.inr 1), .inl (-2147483648, 2147483647)], [], [(some (.inl (1, 1)), [.inr (.inr 1), .inl (0, 255)], [((0, 8), .inl (5, 5))]), (some (.inl (0, 0)), [.inr (.inr 1), .inl (-2147483648, 2147483647)], [])], [])
def km298_a : List fx_N := []
def km298_s : List fx_D := []
def km298_x : fx_X := ([], [(206, 12, 6), (213, 12, 8)], [], [], [], [(13, 209, 12, km287_c)])
set_option maxRecDepth 100000 in
theorem km298_k : fx_chk TM 2 km298_c 3 km298_x t_X12_isSignHere km298_a km298_s 15 = true := by decide +kernel
set_option maxRecDepth 100000 in
theorem km298 {l : Launch} {E : (Nat → Prop) → State → Prop} {ad : List Nat} {D : va_G} {cy : Nat → ClassId} (h : fx_env E D classes (tys cy) nestW) : fx_Met l yX12_isSignHere (.code yX12_isSignHere cX12_isSignHere 2 (some .boolean) :: wsL_law) ({ frames := 1, cells := 0, slots := 0, locals := 21 }) E (gsM, TM, cy, fun _ => True) ad D classes km298_c :=
  fx_sound (x := km298_x) (tb := t_X12_isSignHere) (an := km298_a) (sp := km298_s) (rk := 3) 15 h (fun _ _ _ _ _ _ => trivial) (fun _ _ _ _ _ _ => trivial) (ht_tys cy) (by decide) rfl ⟨fx_an, (fx_ac fl_X12_206 (fx_ac fl_X12_213 (fx_an))), fx_an, fx_an, fx_an, (fx_ac (ev_V (km287 h) (by decide) rfl ⟨by decide, by decide⟩ iV_X12_sign g_X12_209) (fx_an))⟩ d_X12_isSignHere km298_k
-- X12_isWord 0 l
def km299_c : fx_C := ([.inr (.inr 1), .inr (.inl (-9223372036854775808, 9223372036854775807))], [], [(some (.inl (0, 0)), [.inr (.inr 1), .inr (.inl (-9223372036854775808, 9223372036854775807))], []), (some (.inl (1, 1)), [.inr (.inr 1), .inr (.inl (-9223372036854775808, 9223372036854775807))], [((0, 8), .inl (3, 3))])], [])
def km299_a : List fx_N := []
def km299_s : List fx_D := []
def km299_x : fx_X := ([], [(213, 12, 8), (220, 12, 10)], [], [], [], [])
set_option maxRecDepth 100000 in
theorem km299_k : fx_chk TM 3 km299_c 3 km299_x t_X12_isWord km299_a km299_s 14 = true := by decide +kernel
set_option maxRecDepth 100000 in
theorem km299 {l : Launch} {E : (Nat → Prop) → State → Prop} {ad : List Nat} {D : va_G} {cy : Nat → ClassId} (h : fx_env E D classes (tys cy) nestW) : fx_Met l yX12_isWord (.code yX12_isWord cX12_isWord 3 (some .boolean) :: wsL_law) ({ frames := 0, cells := 0, slots := 0, locals := 0 }) E (gsM, TM, cy, fun _ => True) ad D classes km299_c :=
  fx_sound (x := km299_x) (tb := t_X12_isWord) (an := km299_a) (sp := km299_s) (rk := 3) 14 h (fun _ _ _ _ _ _ => trivial) (fun _ _ _ _ _ _ => trivial) (ht_tys cy) (by decide) rfl ⟨fx_an, (fx_ac fl_X12_213 (fx_ac fl_X12_220 (fx_an))), fx_an, fx_an, fx_an, fx_an⟩ d_X12_isWord km299_k
-- X12_wordHere 0
def km300_c : fx_C := ([.inr (.inr 1)], [], [(some (.inl (119, 119)), [.inr (.inr 1)], [((0, 8), .inl (3, 3))]), (some (.inl (112, 112)), [.inr (.inr 1)], [((0, 8), .inl (3, 3))]), (some (.inl (115, 115)), [.inr (.inr 1)], [((0, 8), .inl (3, 3))]), (some (.inl (116, 116)), [.inr (.inr 1)], [((0, 8), .inl (3, 3))]), (some (.inl (108, 108)), [.inr (.inr 1)], [((0, 8), .inl (3, 3))]), (some (.inl (114, 114)), [.inr (.inr 1)], [((0, 8), .inl (3, 3))]), (some (.inl (0, 0)), [.inr (.inr 1)], [])], [])
def km300_a : List fx_N := []
def km300_s : List fx_D := []
def km300_x : fx_X := ([], [], [], [], [(175, 512970880104), (187, 482854658917), (189, 1936292453), (191, 499984983411), (193, 1818584692), (195, 491394656372)], [(4, 251, 12, km299_c), (17, 251, 12, km299_c), (30, 251, 12, km299_c), (43, 251, 12, km299_c), (56, 251, 12, km299_c), (69, 251, 12, km299_c)])
set_option maxRecDepth 100000 in
theorem km300_k : fx_chk TM 1 km300_c 0 km300_x t_X12_wordHere km300_a km300_s 29 = true := by decide +kernel
set_option maxRecDepth 100000 in
theorem km300 {l : Launch} {E : (Nat → Prop) → State → Prop} {ad : List Nat} {D : va_G} {cy : Nat → ClassId} (h : fx_env E D classes (tys cy) nestW) : fx_Met l yX12_wordHere (.code yX12_wordHere cX12_wordHere 1 (some .int) :: wsL_law) ({ frames := 1, cells := 0, slots := 0, locals := 22 }) E (gsM, TM, cy, fun _ => True) ad D classes km300_c :=
  fx_sound (x := km300_x) (tb := t_X12_wordHere) (an := km300_a) (sp := km300_s) (rk := 0) 29 h (fun _ _ _ _ _ _ => trivial) (fun _ _ _ _ _ _ => trivial) (ht_tys cy) (by decide) rfl ⟨fx_an, fx_an, fx_an, fx_an, (fx_ac kc_X12_175 (fx_ac kc_X12_187 (fx_ac kc_X12_189 (fx_ac kc_X12_191 (fx_ac kc_X12_193 (fx_ac kc_X12_195 (fx_an))))))), (fx_ac (ev_V (km299 h) (by decide) rfl ⟨by decide, by decide⟩ iV_X12_isWord g_X12_251) (fx_ac (ev_V (km299 h) (by decide) rfl ⟨by decide, by decide⟩ iV_X12_isWord g_X12_251) (fx_ac (ev_V (km299 h) (by decide) rfl ⟨by decide, by decide⟩ iV_X12_isWord g_X12_251) (fx_ac (ev_V (km299 h) (by decide) rfl ⟨by decide, by decide⟩ iV_X12_isWord g_X12_251) (fx_ac (ev_V (km299 h) (by decide) rfl ⟨by decide, by decide⟩ iV_X12_isWord g_X12_251) (fx_ac (ev_V (km299 h) (by decide) rfl ⟨by decide, by decide⟩ iV_X12_isWord g_X12_251) (fx_an)))))))⟩ d_X12_wordHere km300_k
-- X12_rankHere 0
def km301_c : fx_C := ([.inr (.inr 1)], [], [(some (.inl (2, 2)), [.inr (.inr 1)], [((0, 8), .inl (3, 3))]), (some (.inl (1, 1)), [.inr (.inr 1)], [((0, 8), .inl (3, 3))]), (some (.inl (0, 0)), [.inr (.inr 1)], []), (some (.inl (6, 6)), [.inr (.inr 1)], [((0, 8), .inl (5, 5))]), (some (.inl (5, 5)), [.inr (.inr 1)], [((0, 8), .inl (5, 5))]), (some (.inl (4, 4)), [.inr (.inr 1)], [((0, 8), .inl (5, 5))])], [])
def km301_a : List fx_N := []
def km301_s : List fx_D := []
def km301_x : fx_X := ([], [], [], [], [(197, 28530), (199, 6385252)], [(4, 251, 12, km299_c), (16, 251, 12, km299_c), (27, 262, 12, km298_c), (36, 262, 12, km298_c), (45, 262, 12, km298_c), (56, 262, 12, km298_c), (65, 262, 12, km298_c), (76, 262, 12, km298_c), (85, 262, 12, km298_c), (94, 262, 12, km298_c)])
set_option maxRecDepth 100000 in
theorem km301_k : fx_chk TM 1 km301_c 0 km301_x t_X12_rankHere km301_a km301_s 45 = true := by decide +kernel
set_option maxRecDepth 100000 in
theorem km301 {l : Launch} {E : (Nat → Prop) → State → Prop} {ad : List Nat} {D : va_G} {cy : Nat → ClassId} (h : fx_env E D classes (tys cy) nestW) : fx_Met l yX12_rankHere (.code yX12_rankHere cX12_rankHere 1 (some .int) :: wsL_law) ({ frames := 2, cells := 0, slots := 0, locals := 42 }) E (gsM, TM, cy, fun _ => True) ad D classes km301_c :=
  fx_sound (x := km301_x) (tb := t_X12_rankHere) (an := km301_a) (sp := km301_s) (rk := 0) 45 h (fun _ _ _ _ _ _ => trivial) (fun _ _ _ _ _ _ => trivial) (ht_tys cy) (by decide) rfl ⟨fx_an, fx_an, fx_an, fx_an, (fx_ac kc_X12_197 (fx_ac kc_X12_199 (fx_an))), (fx_ac (ev_V (km299 h) (by decide) rfl ⟨by decide, by decide⟩ iV_X12_isWord g_X12_251) (fx_ac (ev_V (km299 h) (by decide) rfl ⟨by decide, by decide⟩ iV_X12_isWord g_X12_251) (fx_ac (ev_V (km298 h) (by decide) rfl ⟨by decide, by decide⟩ iV_X12_isSignHere g_X12_262) (fx_ac (ev_V (km298 h) (by decide) rfl ⟨by decide, by decide⟩ iV_X12_isSignHere g_X12_262) (fx_ac (ev_V (km298 h) (by decide) rfl ⟨by decide, by decide⟩ iV_X12_isSignHere g_X12_262) (fx_ac (ev_V (km298 h) (by decide) rfl ⟨by decide, by decide⟩ iV_X12_isSignHere g_X12_262) (fx_ac (ev_V (km298 h) (by decide) rfl ⟨by decide, by decide⟩ iV_X12_isSignHere g_X12_262) (fx_ac (ev_V (km298 h) (by decide) rfl ⟨by decide, by decide⟩ iV_X12_isSignHere g_X12_262) (fx_ac (ev_V (km298 h) (by decide) rfl ⟨by decide, by decide⟩ iV_X12_isSignHere g_X12_262) (fx_ac (ev_V (km298 h) (by decide) rfl ⟨by decide, by decide⟩ iV_X12_isSignHere g_X12_262) (fx_an)))))))))))⟩ d_X12_rankHere km301_k
-- X12_numeral 0 i i
def km302_c : fx_C := ([.inr (.inr 1), .inl (0, 0), .inl (0, 999)], [((0, 7), .inl (0, 1600))], [(some (.inl (0, 0)), [.inr (.inr 1), .inl (0, 0), .inl (0, 999)], [((0, 4), .inl (1, 5)), ((0, 7), .inl (0, 1600))]), (some (.inl (-2147483648, 2147483647)), [.inr (.inr 1), .inl (0, 0), .inl (0, 999)], [((0, 4), .inl (0, 0)), ((0, 7), .inl (0, 1600))])], [(12, 4), (12, 5), (12, 6), (12, 7), (12, 8), (12, 9), (12, 10)])
def km302_a : List fx_N := []
def km302_s : List fx_D := []
def km302_x : fx_X := ([], [(206, 12, 6), (213, 12, 8), (231, 12, 9)], [], [], [], [(1, 241, 12, km293_c), (18, 248, 12, km295_c), (22, 241, 12, km293_c), (50, 237, 12, km294_c), (59, 241, 12, km293_c), (66, 245, 12, km292_c), (70, 241, 12, km293_c)])
set_option maxRecDepth 100000 in
theorem km302_k : fx_chk TM 4 km302_c 0 km302_x t_X12_numeral km302_a km302_s 41 = true := by decide +kernel
set_option maxRecDepth 100000 in
theorem km302 {l : Launch} {E : (Nat → Prop) → State → Prop} {ad : List Nat} {D : va_G} {cy : Nat → ClassId} (h : fx_env E D classes (tys cy) nestW) : fx_Met l yX12_numeral (.code yX12_numeral cX12_numeral 4 (some .int) :: wsL_law) ({ frames := 2, cells := 0, slots := 0, locals := 44 }) E (gsM, TM, cy, fun _ => True) ad D classes km302_c :=
  fx_sound (x := km302_x) (tb := t_X12_numeral) (an := km302_a) (sp := km302_s) (rk := 0) 41 h (fun _ _ _ _ _ _ => trivial) (fun _ _ _ _ _ _ => trivial) (ht_tys cy) (by decide) rfl ⟨fx_an, (fx_ac fl_X12_206 (fx_ac fl_X12_213 (fx_ac fl_X12_231 (fx_an)))), fx_an, fx_an, fx_an, (fx_ac (ev_V (km293 h) (by decide) rfl ⟨by decide, by decide⟩ iV_X12_isGood g_X12_241) (fx_ac (ev_V (km295 h) (by decide) rfl ⟨by decide, by decide⟩ iV_X12_misplaced g_X12_248) (fx_ac (ev_V (km293 h) (by decide) rfl ⟨by decide, by decide⟩ iV_X12_isGood g_X12_241) (fx_ac (ev_V (km294 h) (by decide) rfl ⟨by decide, by decide⟩ iV_X12_fails g_X12_237) (fx_ac (ev_V (km293 h) (by decide) rfl ⟨by decide, by decide⟩ iV_X12_isGood g_X12_241) (fx_ac (ev_V (km292 h) (by decide) rfl ⟨by decide, by decide⟩ iV_X12_goOn g_X12_245) (fx_ac (ev_V (km293 h) (by decide) rfl ⟨by decide, by decide⟩ iV_X12_isGood g_X12_241) (fx_an))))))))⟩ d_X12_numeral km302_k
