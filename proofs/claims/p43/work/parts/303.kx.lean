-- X6_readWords 1 11 i
def kx102_c : fx_C := ([.inr (.inr 2), .inr (.inr 12), .inl (12, 12)], [], [(some (.inl (0, 0)), [.inr (.inr 2), .inr (.inr 12), .inl (12, 12)], [((0, 2), .inl (1, 5))]), (some (.inl (1, 1)), [.inr (.inr 2), .inr (.inr 12), .inl (12, 12)], [])], [(1, 1), (6, 2), (6, 3), (9, 3), (9, 4), (9, 5), (9, 6), (9, 7), (1000, 14)])
def kx102_a : List fx_N := [(35, [(0, .inr (.inr 2)), (1, .inr (.inr 12)), (2, .inl (12, 12)), (3, .inl (0, 12))], [], [(0, 0), (1, 3), (0, 0)], [(0, 0), (1, 1), (2, 2)])]
def kx102_s : List fx_D := []
def kx102_x : fx_X := ([], [(12, 6, 0), (21, 6, 1), (38, 9, 4), (74, 9, 7)], [], [], [], [(13, 71, 9, kx16_c), (29, 65, 6, kx19_c), (53, 106, 6, kx94_c), (73, 78, 10, kx93_c), (76, 135, 1, kx101_c), (83, 71, 9, kx16_c), (95, 89, 6, kx21_c)])
set_option maxRecDepth 100000 in
theorem kx102_k : fx_chk TX 4 kx102_c 3 kx102_x t_X6_readWords kx102_a kx102_s 27 = true := by decide +kernel
set_option maxRecDepth 100000 in
theorem kx102 {l : Launch} {E : (Nat → Prop) → State → Prop} {ad : List Nat} {D : va_G} {gs : List Nat} {cy : Nat → ClassId} (h : fxX E D cy) : fx_Met l yX6_readWords (.code yX6_readWords cX6_readWords 4 (some .boolean) :: wsL_law) ({ frames := 6, cells := 0, slots := 0, locals := 133 }) E (gs, TX, cy, fun _ => True) ad D classes kx102_c :=
  fx_sound (x := kx102_x) (tb := t_X6_readWords) (an := kx102_a) (sp := kx102_s) (rk := 3) 27 h.1 (fun _ _ _ _ _ _ => trivial) (fun _ _ _ _ _ _ => trivial) (ht_tys cy) (by decide) rfl ⟨fx_an, (fx_ac fl_X6_12 (fx_ac fl_X6_21 (fx_ac fl_X6_38 (fx_ac fl_X6_74 (fx_an))))), fx_an, fx_an, fx_an, (fx_ac (ev_V (kx16 h) (by decide) rfl ⟨by decide, by decide⟩ iV_X9_advance g_X6_71) (fx_ac (ev_V (kx19 h) (by decide) rfl ⟨by decide, by decide⟩ iV_X6_refuse g_X6_65) (fx_ac (ev_V (kx94 h) (by decide) rfl ⟨by decide, by decide⟩ iV_X6_canReadWord g_X6_106) (fx_ac (ev_V (kx93 h) (by decide) rfl ⟨by decide, by decide⟩ iV_X10_wordNamed g_X6_78) (fx_ac (ev_V (kx101 h) (by decide) rfl ⟨by decide, by decide⟩ iV_X1_add g_X6_135) (fx_ac (ev_V (kx16 h) (by decide) rfl ⟨by decide, by decide⟩ iV_X9_advance g_X6_71) (fx_ac (ev_V (kx21 h) (by decide) rfl ⟨by decide, by decide⟩ iV_X6_pass g_X6_89) (fx_an))))))))⟩ d_X6_readWords kx102_k
-- X10_hasWord 8 i
def kx103_c : fx_C := ([.inr (.inr 9), .inl (-2147483648, 2147483647)], [], [(some (.inl (1, 1)), [.inr (.inr 9), .inl (0, 8)], [((0, 7), .inl (1, 9))]), (some (.inl (0, 0)), [.inr (.inr 9), .inl (-2147483648, 2147483647)], [])], [])
def kx103_a : List fx_N := []
def kx103_s : List fx_D := []
def kx103_x : fx_X := ([], [(46, 10, 7)], [], [], [], [])
set_option maxRecDepth 100000 in
theorem kx103_k : fx_chk TX 2 kx103_c 3 kx103_x t_X10_hasWord kx103_a kx103_s 14 = true := by decide +kernel
set_option maxRecDepth 100000 in
theorem kx103 {l : Launch} {E : (Nat → Prop) → State → Prop} {ad : List Nat} {D : va_G} {gs : List Nat} {cy : Nat → ClassId} (h : fxX E D cy) : fx_Met l yX10_hasWord (.code yX10_hasWord cX10_hasWord 2 (some .boolean) :: wsL_law) ({ frames := 0, cells := 0, slots := 0, locals := 0 }) E (gs, TX, cy, fun _ => True) ad D classes kx103_c :=
  fx_sound (x := kx103_x) (tb := t_X10_hasWord) (an := kx103_a) (sp := kx103_s) (rk := 3) 14 h.1 (fun _ _ _ _ _ _ => trivial) (fun _ _ _ _ _ _ => trivial) (ht_tys cy) (by decide) rfl ⟨fx_an, (fx_ac fl_X10_46 (fx_an)), fx_an, fx_an, fx_an, fx_an⟩ d_X10_hasWord kx103_k
-- X10_isPairTold 8 i i
def kx104_c : fx_C := ([.inr (.inr 9), .inl (-1, 8), .inl (-1, 8)], [], [(some (.inl (0, 0)), [.inr (.inr 9), .inl (-1, 8), .inl (-1, 8)], []), (some (.inl (1, 1)), [.inr (.inr 9), .inl (0, 8), .inl (0, 8)], [((0, 7), .inl (1, 9))])], [])
def kx104_a : List fx_N := []
def kx104_s : List fx_D := []
def kx104_x : fx_X := ([], [(22, 10, 3)], [], [], [], [(2, 73, 10, kx103_c), (10, 73, 10, kx103_c)])
set_option maxRecDepth 100000 in
theorem kx104_k : fx_chk TX 3 kx104_c 3 kx104_x t_X10_isPairTold kx104_a kx104_s 22 = true := by decide +kernel
set_option maxRecDepth 100000 in
theorem kx104 {l : Launch} {E : (Nat → Prop) → State → Prop} {ad : List Nat} {D : va_G} {gs : List Nat} {cy : Nat → ClassId} (h : fxX E D cy) : fx_Met l yX10_isPairTold (.code yX10_isPairTold cX10_isPairTold 3 (some .boolean) :: wsL_law) ({ frames := 1, cells := 0, slots := 0, locals := 21 }) E (gs, TX, cy, fun _ => True) ad D classes kx104_c :=
  fx_sound (x := kx104_x) (tb := t_X10_isPairTold) (an := kx104_a) (sp := kx104_s) (rk := 3) 22 h.1 (fun _ _ _ _ _ _ => trivial) (fun _ _ _ _ _ _ => trivial) (ht_tys cy) (by decide) rfl ⟨fx_an, (fx_ac fl_X10_22 (fx_an)), fx_an, fx_an, fx_an, (fx_ac (ev_V (kx103 h) (by decide) rfl ⟨by decide, by decide⟩ iV_X10_hasWord g_X10_73) (fx_ac (ev_V (kx103 h) (by decide) rfl ⟨by decide, by decide⟩ iV_X10_hasWord g_X10_73) (fx_an)))⟩ d_X10_isPairTold kx104_k
-- X10_addPair 8 i i i
def kx105_c : fx_C := ([.inr (.inr 9), .inl (-1, 8), .inl (-1, 8), .inl (-2147483648, 2147483647)], [], [(none, [.inr (.inr 9), .inl (-1, 8), .inl (-1, 8), .inl (-2147483648, 2147483647)], [])], [(10, 8), (1000, 23), (1000, 24)])
def kx105_a : List fx_N := []
def kx105_s : List fx_D := []
def kx105_x : fx_X := ([], [(19, 10, 2), (22, 10, 3), (50, 10, 8)], [(50, 10, 8, 0)], [], [], [(2, 73, 10, kx103_c), (10, 73, 10, kx103_c)])
set_option maxRecDepth 100000 in
theorem kx105_k : fx_chk TX 4 kx105_c 9 kx105_x t_X10_addPair kx105_a kx105_s 35 = true := by decide +kernel
set_option maxRecDepth 100000 in
theorem kx105 {l : Launch} {E : (Nat → Prop) → State → Prop} {ad : List Nat} {D : va_G} {gs : List Nat} {cy : Nat → ClassId} (h : fxX E D cy) : fx_Met l yX10_addPair (.code yX10_addPair cX10_addPair 4 none :: wsL_law) ({ frames := 1, cells := 0, slots := 0, locals := 21 }) E (gs, TX, cy, fun _ => True) ad D classes kx105_c :=
  fx_sound (x := kx105_x) (tb := t_X10_addPair) (an := kx105_a) (sp := kx105_s) (rk := 9) 35 h.1 (fun _ _ _ _ _ _ => trivial) (fun _ _ _ _ _ _ => trivial) (ht_tys cy) (by decide) rfl ⟨fx_an, (fx_ac fl_X10_19 (fx_ac fl_X10_22 (fx_ac fl_X10_50 (fx_an)))), (fx_ac pl_X10_50 (fx_an)), fx_an, fx_an, (fx_ac (ev_V (kx103 h) (by decide) rfl ⟨by decide, by decide⟩ iV_X10_hasWord g_X10_73) (fx_ac (ev_V (kx103 h) (by decide) rfl ⟨by decide, by decide⟩ iV_X10_hasWord g_X10_73) (fx_an)))⟩ d_X10_addPair kx105_k
-- X6_readBesideLine 1
def kx106_c : fx_C := ([.inr (.inr 2)], [], [(some (.inl (0, 0)), [.inr (.inr 2)], [((0, 2), .inl (1, 5))]), (some (.inl (1, 1)), [.inr (.inr 2)], [((0, 1), .inr (.inr 9)), ((1, 7), .inl (1, 9))])], [(6, 2), (6, 3), (9, 3), (9, 4), (9, 5), (9, 6), (9, 7), (10, 8), (1000, 23), (1000, 24)])
def kx106_a : List fx_N := []
def kx106_s : List fx_D := []
def kx106_x : fx_X := ([], [(12, 6, 0), (21, 6, 1), (38, 9, 4), (74, 9, 7), (82, 9, 5), (96, 9, 6), (103, 10, 8)], [], [], [], [(13, 65, 6, kx19_c), (21, 71, 9, kx16_c), (25, 106, 6, kx94_c), (44, 78, 10, kx93_c), (52, 71, 9, kx16_c), (56, 106, 6, kx94_c), (75, 78, 10, kx93_c), (85, 109, 10, kx104_c), (100, 85, 6, kx18_c), (108, 71, 9, kx16_c), (147, 71, 9, kx16_c), (154, 93, 6, kx20_c), (191, 112, 10, kx105_c), (198, 71, 9, kx16_c), (204, 89, 6, kx21_c)])
set_option maxRecDepth 100000 in
theorem kx106_k : fx_chk TX 5 kx106_c 3 kx106_x t_X6_readBesideLine kx106_a kx106_s 83 = true := by decide +kernel
set_option maxRecDepth 100000 in
theorem kx106 {l : Launch} {E : (Nat → Prop) → State → Prop} {ad : List Nat} {D : va_G} {gs : List Nat} {cy : Nat → ClassId} (h : fxX E D cy) : fx_Met l yX6_readBesideLine (.code yX6_readBesideLine cX6_readBesideLine 5 (some .boolean) :: wsL_law) ({ frames := 6, cells := 0, slots := 0, locals := 133 }) E (gs, TX, cy, fun _ => True) ad D classes kx106_c :=
  fx_sound (x := kx106_x) (tb := t_X6_readBesideLine) (an := kx106_a) (sp := kx106_s) (rk := 3) 83 h.1 (fun _ _ _ _ _ _ => trivial) (fun _ _ _ _ _ _ => trivial) (ht_tys cy) (by decide) rfl ⟨fx_an, (fx_ac fl_X6_12 (fx_ac fl_X6_21 (fx_ac fl_X6_38 (fx_ac fl_X6_74 (fx_ac fl_X6_82 (fx_ac fl_X6_96 (fx_ac fl_X6_103 (fx_an)))))))), fx_an, fx_an, fx_an, (fx_ac (ev_V (kx19 h) (by decide) rfl ⟨by decide, by decide⟩ iV_X6_refuse g_X6_65) (fx_ac (ev_V (kx16 h) (by decide) rfl ⟨by decide, by decide⟩ iV_X9_advance g_X6_71) (fx_ac (ev_V (kx94 h) (by decide) rfl ⟨by decide, by decide⟩ iV_X6_canReadWord g_X6_106) (fx_ac (ev_V (kx93 h) (by decide) rfl ⟨by decide, by decide⟩ iV_X10_wordNamed g_X6_78) (fx_ac (ev_V (kx16 h) (by decide) rfl ⟨by decide, by decide⟩ iV_X9_advance g_X6_71) (fx_ac (ev_V (kx94 h) (by decide) rfl ⟨by decide, by decide⟩ iV_X6_canReadWord g_X6_106) (fx_ac (ev_V (kx93 h) (by decide) rfl ⟨by decide, by decide⟩ iV_X10_wordNamed g_X6_78) (fx_ac (ev_V (kx104 h) (by decide) rfl ⟨by decide, by decide⟩ iV_X10_isPairTold g_X6_109) (fx_ac (ev_V (kx18 h) (by decide) rfl ⟨by decide, by decide⟩ iV_X6_fail g_X6_85) (fx_ac (ev_V (kx16 h) (by decide) rfl ⟨by decide, by decide⟩ iV_X9_advance g_X6_71) (fx_ac (ev_V (kx16 h) (by decide) rfl ⟨by decide, by decide⟩ iV_X9_advance g_X6_71) (fx_ac (ev_V (kx20 h) (by decide) rfl ⟨by decide, by decide⟩ iV_X6_canReadNumber g_X6_93) (fx_ac (ev_V (kx105 h) (by decide) rfl ⟨by decide, by decide⟩ iV_X10_addPair g_X6_112) (fx_ac (ev_V (kx16 h) (by decide) rfl ⟨by decide, by decide⟩ iV_X9_advance g_X6_71) (fx_ac (ev_V (kx21 h) (by decide) rfl ⟨by decide, by decide⟩ iV_X6_pass g_X6_89) (fx_an))))))))))))))))⟩ d_X6_readBesideLine kx106_k
-- X10_addWord 8 l i
def kx107_c : fx_C := ([.inr (.inr 9), .inr (.inl (-9223372036854775808, 9223372036854775807)), .inl (-2147483648, 999)], [], [(none, [.inr (.inr 9), .inr (.inl (-9223372036854775808, 9223372036854775807)), .inl (-2147483648, 999)], [((0, 7), .inl (1, 9))])], [(10, 7), (1000, 21), (1000, 22)])
def kx107_a : List fx_N := []
def kx107_s : List fx_D := []
def kx107_x : fx_X := ([], [(9, 10, 0), (15, 10, 1), (46, 10, 7)], [(46, 10, 7, 0)], [], [], [])
set_option maxRecDepth 100000 in
theorem kx107_k : fx_chk TX 4 kx107_c 9 kx107_x t_X10_addWord kx107_a kx107_s 25 = true := by decide +kernel
set_option maxRecDepth 100000 in
theorem kx107 {l : Launch} {E : (Nat → Prop) → State → Prop} {ad : List Nat} {D : va_G} {gs : List Nat} {cy : Nat → ClassId} (h : fxX E D cy) : fx_Met l yX10_addWord (.code yX10_addWord cX10_addWord 4 none :: wsL_law) ({ frames := 0, cells := 0, slots := 0, locals := 0 }) E (gs, TX, cy, fun _ => True) ad D classes kx107_c :=
  fx_sound (x := kx107_x) (tb := t_X10_addWord) (an := kx107_a) (sp := kx107_s) (rk := 9) 25 h.1 (fun _ _ _ _ _ _ => trivial) (fun _ _ _ _ _ _ => trivial) (ht_tys cy) (by decide) rfl ⟨fx_an, (fx_ac fl_X10_9 (fx_ac fl_X10_15 (fx_ac fl_X10_46 (fx_an)))), (fx_ac pl_X10_46 (fx_an)), fx_an, fx_an, fx_an⟩ d_X10_addWord kx107_k
-- X6_readWordLine 1
def kx108_c : fx_C := ([.inr (.inr 2)], [], [(some (.inl (0, 0)), [.inr (.inr 2)], [((0, 2), .inl (1, 5))]), (some (.inl (1, 1)), [.inr (.inr 2)], [((0, 1), .inr (.inr 9)), ((1, 7), .inl (1, 9))])], [(6, 2), (6, 3), (9, 3), (9, 4), (9, 5), (9, 6), (9, 7), (10, 7), (1000, 21), (1000, 22)])
def kx108_a : List fx_N := []
def kx108_s : List fx_D := []
def kx108_x : fx_X := ([], [(12, 6, 0), (21, 6, 1), (38, 9, 4), (68, 10, 7), (74, 9, 7), (82, 9, 5), (96, 9, 6)], [], [], [], [(13, 65, 6, kx19_c), (21, 71, 9, kx16_c), (37, 65, 6, kx19_c), (54, 78, 10, kx93_c), (70, 85, 6, kx18_c), (78, 71, 9, kx16_c), (85, 89, 6, kx21_c), (101, 93, 6, kx20_c), (121, 99, 10, kx107_c), (128, 71, 9, kx16_c), (134, 89, 6, kx21_c)])
set_option maxRecDepth 100000 in
theorem kx108_k : fx_chk TX 3 kx108_c 3 kx108_x t_X6_readWordLine kx108_a kx108_s 53 = true := by decide +kernel
set_option maxRecDepth 100000 in
theorem kx108 {l : Launch} {E : (Nat → Prop) → State → Prop} {ad : List Nat} {D : va_G} {gs : List Nat} {cy : Nat → ClassId} (h : fxX E D cy) : fx_Met l yX6_readWordLine (.code yX6_readWordLine cX6_readWordLine 3 (some .boolean) :: wsL_law) ({ frames := 6, cells := 0, slots := 0, locals := 133 }) E (gs, TX, cy, fun _ => True) ad D classes kx108_c :=
  fx_sound (x := kx108_x) (tb := t_X6_readWordLine) (an := kx108_a) (sp := kx108_s) (rk := 3) 53 h.1 (fun _ _ _ _ _ _ => trivial) (fun _ _ _ _ _ _ => trivial) (ht_tys cy) (by decide) rfl ⟨fx_an, (fx_ac fl_X6_12 (fx_ac fl_X6_21 (fx_ac fl_X6_38 (fx_ac fl_X6_68 (fx_ac fl_X6_74 (fx_ac fl_X6_82 (fx_ac fl_X6_96 (fx_an)))))))), fx_an, fx_an, fx_an, (fx_ac (ev_V (kx19 h) (by decide) rfl ⟨by decide, by decide⟩ iV_X6_refuse g_X6_65) (fx_ac (ev_V (kx16 h) (by decide) rfl ⟨by decide, by decide⟩ iV_X9_advance g_X6_71) (fx_ac (ev_V (kx19 h) (by decide) rfl ⟨by decide, by decide⟩ iV_X6_refuse g_X6_65) (fx_ac (ev_V (kx93 h) (by decide) rfl ⟨by decide, by decide⟩ iV_X10_wordNamed g_X6_78) (fx_ac (ev_V (kx18 h) (by decide) rfl ⟨by decide, by decide⟩ iV_X6_fail g_X6_85) (fx_ac (ev_V (kx16 h) (by decide) rfl ⟨by decide, by decide⟩ iV_X9_advance g_X6_71) (fx_ac (ev_V (kx21 h) (by decide) rfl ⟨by decide, by decide⟩ iV_X6_pass g_X6_89) (fx_ac (ev_V (kx20 h) (by decide) rfl ⟨by decide, by decide⟩ iV_X6_canReadNumber g_X6_93) (fx_ac (ev_V (kx107 h) (by decide) rfl ⟨by decide, by decide⟩ iV_X10_addWord g_X6_99) (fx_ac (ev_V (kx16 h) (by decide) rfl ⟨by decide, by decide⟩ iV_X9_advance g_X6_71) (fx_ac (ev_V (kx21 h) (by decide) rfl ⟨by decide, by decide⟩ iV_X6_pass g_X6_89) (fx_an))))))))))))⟩ d_X6_readWordLine kx108_k
-- X6_readTable 1
def kx109_c : fx_C := ([.inr (.inr 2)], [], [(some (.inl (1, 1)), [.inr (.inr 2)], [((0, 2), .inl (0, 0))]), (some (.inl (0, 0)), [.inr (.inr 2)], [])], [(0, 4), (0, 6), (0, 7), (1, 1), (6, 2), (6, 3), (9, 3), (9, 4), (9, 5), (9, 6), (9, 7), (10, 7), (10, 8), (10, 9), (10, 10), (10, 11), (1000, 14), (1000, 17), (1000, 18), (1000, 21), (1000, 22), (1000, 23), (1000, 24), (1000, 44)])
def kx109_a : List fx_N := [(26, [(0, .inr (.inr 2)), (1, .inl (0, 1600))], [], [(0, 0), (1, 1), (0, 0)], [(0, 0)])]
def kx109_s : List fx_D := []
def kx109_x : fx_X := ([], [(12, 6, 0), (21, 6, 1), (25, 6, 2), (38, 9, 4)], [(25, 6, 2, 0), (29, 6, 3, 0)], [], [], [(14, 32, 10, kx7_c), (21, 35, 9, kx17_c), (97, 41, 6, kx108_c), (105, 45, 6, kx106_c), (117, 48, 10, kx99_c), (122, 52, 6, kx102_c), (122, 52, 6, kx98_c), (134, 56, 10, kx92_c), (139, 52, 6, kx97_c), (139, 52, 6, kx98_c), (147, 59, 6, kx90_c), (155, 62, 6, kx22_c), (163, 65, 6, kx19_c)])
set_option maxRecDepth 100000 in
theorem kx109_k : fx_chk TX 2 kx109_c 3 kx109_x t_X6_readTable kx109_a kx109_s 28 = true := by decide +kernel
set_option maxRecDepth 100000 in
theorem kx109 {l : Launch} {E : (Nat → Prop) → State → Prop} {ad : List Nat} {D : va_G} {gs : List Nat} {cy : Nat → ClassId} (h : fxX E D cy) : fx_Met l yX6_readTable (.code yX6_readTable cX6_readTable 2 (some .boolean) :: wsL_law) ({ frames := 61, cells := 0, slots := 0, locals := 1351 }) E (gs, TX, cy, fun _ => True) ad D classes kx109_c :=
  fx_sound (x := kx109_x) (tb := t_X6_readTable) (an := kx109_a) (sp := kx109_s) (rk := 3) 28 h.1 (fun _ _ _ _ _ _ => trivial) (fun _ _ _ _ _ _ => trivial) (ht_tys cy) (by decide) rfl ⟨fx_an, (fx_ac fl_X6_12 (fx_ac fl_X6_21 (fx_ac fl_X6_25 (fx_ac fl_X6_38 (fx_an))))), (fx_ac pl_X6_25 (fx_ac pl_X6_29 (fx_an))), fx_an, fx_an, (fx_ac (ev_V (kx7 h) (by decide) rfl ⟨by decide, by decide⟩ iV_X10_clear g_X6_32) (fx_ac (ev_V (kx17 h) (by decide) rfl ⟨by decide, by decide⟩ iV_X9_rewind g_X6_35) (fx_ac (ev_V (kx108 h) (by decide) rfl ⟨by decide, by decide⟩ iV_X6_readWordLine g_X6_41) (fx_ac (ev_V (kx106 h) (by decide) rfl ⟨by decide, by decide⟩ iV_X6_readBesideLine g_X6_45) (fx_ac (ev_V (kx99 h) (by decide) rfl ⟨by decide, by decide⟩ iV_X10_addRow g_X6_48) (fx_ac (ev_V (kx102 h) (by decide) rfl ⟨by decide, by decide⟩ iV_X6_readWords g_X6_52) (fx_ac (ev_V (kx98 h) (by decide) rfl ⟨by decide, by decide⟩ iV_X6_readWords g_X6_52) (fx_ac (ev_V (kx92 h) (by decide) rfl ⟨by decide, by decide⟩ iV_X10_addSlip g_X6_56) (fx_ac (ev_V (kx97 h) (by decide) rfl ⟨by decide, by decide⟩ iV_X6_readWords g_X6_52) (fx_ac (ev_V (kx98 h) (by decide) rfl ⟨by decide, by decide⟩ iV_X6_readWords g_X6_52) (fx_ac (ev_V (kx90 h) (by decide) rfl ⟨by decide, by decide⟩ iV_X6_readMissLine g_X6_59) (fx_ac (ev_V (kx22 h) (by decide) rfl ⟨by decide, by decide⟩ iV_X6_readDrawLine g_X6_62) (fx_ac (ev_V (kx19 h) (by decide) rfl ⟨by decide, by decide⟩ iV_X6_refuse g_X6_65) (fx_an))))))))))))))⟩ d_X6_readTable kx109_k
-- X6_handOver 1 8
def kx110_c : fx_C := ([.inr (.inr 2), .inr (.inr 9)], [], [(some (.inr (.inr 9)), [.inr (.inr 2), .inr (.inr 9)], [])], [(6, 1)])
def kx110_a : List fx_N := []
def kx110_s : List fx_D := []
def kx110_x : fx_X := ([], [(21, 6, 1)], [(21, 6, 1, 4)], [], [], [])
set_option maxRecDepth 100000 in
theorem kx110_k : fx_chk TX 3 kx110_c 4 kx110_x t_X6_handOver kx110_a kx110_s 10 = true := by decide +kernel
set_option maxRecDepth 100000 in
theorem kx110 {l : Launch} {E : (Nat → Prop) → State → Prop} {ad : List Nat} {D : va_G} {gs : List Nat} {cy : Nat → ClassId} (h : fxX E D cy) : fx_Met l yX6_handOver (.code yX6_handOver cX6_handOver 3 (some (.object "LostWords$Told")) :: wsL_law) ({ frames := 0, cells := 0, slots := 0, locals := 0 }) E (gs, TX, cy, fun _ => True) ad D classes kx110_c :=
  fx_sound (x := kx110_x) (tb := t_X6_handOver) (an := kx110_a) (sp := kx110_s) (rk := 4) 10 h.1 (fun _ _ _ _ _ _ => trivial) (fun _ _ _ _ _ _ => trivial) (ht_tys cy) (by decide) ⟨_, rfl⟩ ⟨fx_an, (fx_ac fl_X6_21 (fx_an)), (fx_ac pl_X6_21 (fx_an)), fx_an, fx_an, fx_an⟩ d_X6_handOver kx110_k
-- X1_clear 12
def kx111_c : fx_C := ([.inr (.inr 13)], [], [(none, [.inr (.inr 13)], [((0, 1), .inl (0, 0))])], [(1, 1)])
def kx111_a : List fx_N := []
def kx111_s : List fx_D := []
def kx111_x : fx_X := ([], [], [(21, 1, 1, 0)], [], [], [])
set_option maxRecDepth 100000 in
theorem kx111_k : fx_chk TX 1 kx111_c 9 kx111_x t_X1_clear kx111_a kx111_s 6 = true := by decide +kernel
set_option maxRecDepth 100000 in
theorem kx111 {l : Launch} {E : (Nat → Prop) → State → Prop} {ad : List Nat} {D : va_G} {gs : List Nat} {cy : Nat → ClassId} (h : fxX E D cy) : fx_Met l yX1_clear (.code yX1_clear cX1_clear 1 none :: wsL_law) ({ frames := 0, cells := 0, slots := 0, locals := 0 }) E (gs, TX, cy, fun _ => True) ad D classes kx111_c :=
  fx_sound (x := kx111_x) (tb := t_X1_clear) (an := kx111_a) (sp := kx111_s) (rk := 9) 6 h.1 (fun _ _ _ _ _ _ => trivial) (fun _ _ _ _ _ _ => trivial) (ht_tys cy) (by decide) rfl ⟨fx_an, fx_an, (fx_ac pl_X1_21 (fx_an)), fx_an, fx_an, fx_an⟩ d_X1_clear kx111_k
-- X1_at 11 i
def kx112_c : fx_C := ([.inr (.inr 12), .inl (-2147483648, 2147483647)], [], [(some (.inl (-2147483648, 2147483647)), [.inr (.inr 12), .inl (0, 11)], [((0, 1), .inl (1, 12))]), (some (.inl (-1, -1)), [.inr (.inr 12), .inl (-2147483648, 2147483647)], [])], [])
def kx112_a : List fx_N := []
def kx112_s : List fx_D := []
def kx112_x : fx_X := ([], [(15, 1, 0), (21, 1, 1)], [], [], [], [])
set_option maxRecDepth 100000 in
theorem kx112_k : fx_chk TX 2 kx112_c 0 kx112_x t_X1_at kx112_a kx112_s 19 = true := by decide +kernel
set_option maxRecDepth 100000 in
theorem kx112 {l : Launch} {E : (Nat → Prop) → State → Prop} {ad : List Nat} {D : va_G} {gs : List Nat} {cy : Nat → ClassId} (h : fxX E D cy) : fx_Met l yX1_at (.code yX1_at cX1_at 2 (some .int) :: wsL_law) ({ frames := 0, cells := 0, slots := 0, locals := 0 }) E (gs, TX, cy, fun _ => True) ad D classes kx112_c :=
  fx_sound (x := kx112_x) (tb := t_X1_at) (an := kx112_a) (sp := kx112_s) (rk := 0) 19 h.1 (fun _ _ _ _ _ _ => trivial) (fun _ _ _ _ _ _ => trivial) (ht_tys cy) (by decide) rfl ⟨fx_an, (fx_ac fl_X1_15 (fx_ac fl_X1_21 (fx_an))), fx_an, fx_an, fx_an, fx_an⟩ d_X1_at kx112_k
-- X1_copy 11 11
def kx113_c : fx_C := ([.inr (.inr 12), .inr (.inr 12)], [], [(none, [.inr (.inr 12), .inr (.inr 12)], [])], [(1, 1), (1000, 14)])
def kx113_a : List fx_N := [(6, [(0, .inr (.inr 12)), (1, .inr (.inr 12)), (2, .inl (0, 12))], [], [(0, 0), (1, 2), (0, 0)], [(0, 0), (1, 1)])]
def kx113_s : List fx_D := []
def kx113_x : fx_X := ([], [(21, 1, 1)], [], [], [], [(1, 33, 1, kx4_c), (17, 36, 1, kx112_c), (20, 40, 1, kx101_c)])
set_option maxRecDepth 100000 in
theorem kx113_k : fx_chk TX 3 kx113_c 9 kx113_x t_X1_copy kx113_a kx113_s 14 = true := by decide +kernel
set_option maxRecDepth 100000 in
theorem kx113 {l : Launch} {E : (Nat → Prop) → State → Prop} {ad : List Nat} {D : va_G} {gs : List Nat} {cy : Nat → ClassId} (h : fxX E D cy) : fx_Met l yX1_copy (.code yX1_copy cX1_copy 3 none :: wsL_law) ({ frames := 2, cells := 0, slots := 0, locals := 41 }) E (gs, TX, cy, fun _ => True) ad D classes kx113_c :=
  fx_sound (x := kx113_x) (tb := t_X1_copy) (an := kx113_a) (sp := kx113_s) (rk := 9) 14 h.1 (fun _ _ _ _ _ _ => trivial) (fun _ _ _ _ _ _ => trivial) (ht_tys cy) (by decide) rfl ⟨fx_an, (fx_ac fl_X1_21 (fx_an)), fx_an, fx_an, fx_an, (fx_ac (ev_V (kx4 h) (by decide) rfl ⟨by decide, by decide⟩ iV_X1_clear g_X1_33) (fx_ac (ev_V (kx112 h) (by decide) rfl ⟨by decide, by decide⟩ iV_X1_at g_X1_36) (fx_ac (ev_V (kx101 h) (by decide) rfl ⟨by decide, by decide⟩ iV_X1_add g_X1_40) (fx_an))))⟩ d_X1_copy kx113_k
-- X8_copy 10 10
def kx114_c : fx_C := ([.inr (.inr 11), .inr (.inr 11)], [], [(none, [.inr (.inr 11), .inr (.inr 11)], [])], [(1, 1), (8, 1), (8, 2), (1000, 14)])
def kx114_a : List fx_N := []
def kx114_s : List fx_D := []
def kx114_x : fx_X := ([], [(14, 8, 0), (20, 8, 1), (24, 8, 2)], [(20, 8, 1, 0), (24, 8, 2, 0)], [], [], [(8, 27, 1, kx113_c)])
set_option maxRecDepth 100000 in
theorem kx114_k : fx_chk TX 2 kx114_c 9 kx114_x t_X8_copy kx114_a kx114_s 16 = true := by decide +kernel
set_option maxRecDepth 100000 in
theorem kx114 {l : Launch} {E : (Nat → Prop) → State → Prop} {ad : List Nat} {D : va_G} {gs : List Nat} {cy : Nat → ClassId} (h : fxX E D cy) : fx_Met l yX8_copy (.code yX8_copy cX8_copy 2 none :: wsL_law) ({ frames := 3, cells := 0, slots := 0, locals := 63 }) E (gs, TX, cy, fun _ => True) ad D classes kx114_c :=
  fx_sound (x := kx114_x) (tb := t_X8_copy) (an := kx114_a) (sp := kx114_s) (rk := 9) 16 h.1 (fun _ _ _ _ _ _ => trivial) (fun _ _ _ _ _ _ => trivial) (ht_tys cy) (by decide) rfl ⟨fx_an, (fx_ac fl_X8_14 (fx_ac fl_X8_20 (fx_ac fl_X8_24 (fx_an)))), (fx_ac pl_X8_20 (fx_ac pl_X8_24 (fx_an))), fx_an, fx_an, (fx_ac (ev_V (kx113 h) (by decide) rfl ⟨by decide, by decide⟩ iV_X1_copy g_X8_27) (fx_an))⟩ d_X8_copy kx114_k
-- X5_forgetActs 2
def kx115_c : fx_C := ([.inr (.inr 3)], [], [(none, [.inr (.inr 3)], [((0, 5), .inl (0, 0)), ((0, 6), .inl (0, 0))])], [(1, 1), (5, 5), (5, 6), (8, 1), (8, 2), (1000, 14)])
def kx115_a : List fx_N := []
def kx115_s : List fx_D := []
def kx115_x : fx_X := ([], [(12, 5, 0), (21, 5, 2)], [(91, 5, 5, 0), (97, 5, 6, 0)], [], [], [(20, 103, 8, kx114_c)])
set_option maxRecDepth 100000 in
theorem kx115_k : fx_chk TX 1 kx115_c 9 kx115_x t_X5_forgetActs kx115_a kx115_s 16 = true := by decide +kernel
set_option maxRecDepth 100000 in
theorem kx115 {l : Launch} {E : (Nat → Prop) → State → Prop} {ad : List Nat} {D : va_G} {gs : List Nat} {cy : Nat → ClassId} (h : fxX E D cy) : fx_Met l yX5_forgetActs (.code yX5_forgetActs cX5_forgetActs 1 none :: wsL_law) ({ frames := 4, cells := 0, slots := 0, locals := 84 }) E (gs, TX, cy, fun _ => True) ad D classes kx115_c :=
  fx_sound (x := kx115_x) (tb := t_X5_forgetActs) (an := kx115_a) (sp := kx115_s) (rk := 9) 16 h.1 (fun _ _ _ _ _ _ => trivial) (fun _ _ _ _ _ _ => trivial) (ht_tys cy) (by decide) rfl ⟨fx_an, (fx_ac fl_X5_12 (fx_ac fl_X5_21 (fx_an))), (fx_ac pl_X5_91 (fx_ac pl_X5_97 (fx_an))), fx_an, fx_an, (fx_ac (ev_V (kx114 h) (by decide) rfl ⟨by decide, by decide⟩ iV_X8_copy g_X5_103) (fx_an))⟩ d_X5_forgetActs kx115_k
-- X5_open 2 8
def kx116_c : fx_C := ([.inr (.inr 3), .inr (.inr 9)], [], [(none, [.inr (.inr 3), .inr (.inr 9)], [])], [(1, 1), (5, 5), (5, 6), (8, 1), (8, 2), (1000, 14), (1000, 30)])
def kx116_a : List fx_N := [(39, [(0, .inr (.inr 3)), (2, .inl (0, 3))], [((0, 5), .inl (0, 0)), ((0, 6), .inl (0, 0))], [(0, 0), (1, 1), (0, 0)], [(0, 0)])]
def kx116_s : List fx_D := []
def kx116_x : fx_X := ([], [(12, 5, 0), (28, 5, 4), (32, 8, 0), (36, 10, 4), (49, 10, 10)], [(45, 8, 1, 0), (52, 8, 2, 0)], [], [], [(11, 39, 1, kx113_c), (34, 55, 5, kx115_c)])
set_option maxRecDepth 100000 in
theorem kx116_k : fx_chk TX 3 kx116_c 9 kx116_x t_X5_open kx116_a kx116_s 22 = true := by decide +kernel
set_option maxRecDepth 100000 in
theorem kx116 {l : Launch} {E : (Nat → Prop) → State → Prop} {ad : List Nat} {D : va_G} {gs : List Nat} {cy : Nat → ClassId} (h : fxX E D cy) : fx_Met l yX5_open (.code yX5_open cX5_open 3 none :: wsL_law) ({ frames := 5, cells := 0, slots := 0, locals := 104 }) E (gs, TX, cy, fun _ => True) ad D classes kx116_c :=
  fx_sound (x := kx116_x) (tb := t_X5_open) (an := kx116_a) (sp := kx116_s) (rk := 9) 22 h.1 (fun _ _ _ _ _ _ => trivial) (fun _ _ _ _ _ _ => trivial) (ht_tys cy) (by decide) rfl ⟨fx_an, (fx_ac fl_X5_12 (fx_ac fl_X5_28 (fx_ac fl_X5_32 (fx_ac fl_X5_36 (fx_ac fl_X5_49 (fx_an)))))), (fx_ac pl_X5_45 (fx_ac pl_X5_52 (fx_an))), fx_an, fx_an, (fx_ac (ev_V (kx113 h) (by decide) rfl ⟨by decide, by decide⟩ iV_X1_copy g_X5_39) (fx_ac (ev_V (kx115 h) (by decide) rfl ⟨by decide, by decide⟩ iV_X5_forgetActs g_X5_55) (fx_an)))⟩ d_X5_open kx116_k
-- X10_slipAt 8 i
def kx117_c : fx_C := ([.inr (.inr 9), .inl (-2147483648, 2147483647)], [], [(some (.inr (.inr 65)), [.inr (.inr 9), .inl (0, 4)], [((0, 9), .inl (1, 5))]), (some (.inr (.inr 0)), [.inr (.inr 9), .inl (-2147483648, 2147483647)], [])], [])
def kx117_a : List fx_N := []
def kx117_s : List fx_D := []
def kx117_x : fx_X := ([], [(35, 10, 5), (53, 10, 9)], [], [], [], [])
set_option maxRecDepth 100000 in
theorem kx117_k : fx_chk TX 2 kx117_c 4 kx117_x t_X10_slipAt kx117_a kx117_s 19 = true := by decide +kernel
set_option maxRecDepth 100000 in
theorem kx117 {l : Launch} {E : (Nat → Prop) → State → Prop} {ad : List Nat} {D : va_G} {gs : List Nat} {cy : Nat → ClassId} (h : fxX E D cy) : fx_Met l yX10_slipAt (.code yX10_slipAt cX10_slipAt 2 (some (.object "LostWords$Line")) :: wsL_law) ({ frames := 0, cells := 0, slots := 0, locals := 0 }) E (gs, TX, cy, fun _ => True) ad D classes kx117_c :=
  fx_sound (x := kx117_x) (tb := t_X10_slipAt) (an := kx117_a) (sp := kx117_s) (rk := 4) 19 h.1 (fun _ _ _ _ _ _ => trivial) (fun _ _ _ _ _ _ => trivial) (ht_tys cy) (by decide) ⟨_, rfl⟩ ⟨fx_an, (fx_ac fl_X10_35 (fx_ac fl_X10_53 (fx_an))), fx_an, fx_an, fx_an, fx_an⟩ d_X10_slipAt kx117_k
-- X1_at 64 i
def kx118_c : fx_C := ([.inr (.inr 65), .inl (-2147483648, 2147483647)], [], [(some (.inl (-2147483648, 2147483647)), [.inr (.inr 65), .inl (0, 7)], [((0, 1), .inl (1, 8))]), (some (.inl (-1, -1)), [.inr (.inr 65), .inl (-2147483648, 2147483647)], [])], [])
def kx118_a : List fx_N := []
def kx118_s : List fx_D := []
def kx118_x : fx_X := ([], [(15, 1, 0), (21, 1, 1)], [], [], [], [])
set_option maxRecDepth 100000 in
theorem kx118_k : fx_chk TX 2 kx118_c 0 kx118_x t_X1_at kx118_a kx118_s 19 = true := by decide +kernel
set_option maxRecDepth 100000 in
theorem kx118 {l : Launch} {E : (Nat → Prop) → State → Prop} {ad : List Nat} {D : va_G} {gs : List Nat} {cy : Nat → ClassId} (h : fxX E D cy) : fx_Met l yX1_at (.code yX1_at cX1_at 2 (some .int) :: wsL_law) ({ frames := 0, cells := 0, slots := 0, locals := 0 }) E (gs, TX, cy, fun _ => True) ad D classes kx118_c :=
  fx_sound (x := kx118_x) (tb := t_X1_at) (an := kx118_a) (sp := kx118_s) (rk := 0) 19 h.1 (fun _ _ _ _ _ _ => trivial) (fun _ _ _ _ _ _ => trivial) (ht_tys cy) (by decide) rfl ⟨fx_an, (fx_ac fl_X1_15 (fx_ac fl_X1_21 (fx_an))), fx_an, fx_an, fx_an, fx_an⟩ d_X1_at kx118_k
-- X4_isComing 3 64 64
def kx119_c : fx_C := ([.inr (.inr 4), .inr (.inr 65), .inr (.inr 65)], [], [(some (.inl (1, 1)), [.inr (.inr 4), .inr (.inr 65), .inr (.inr 65)], []), (some (.inl (0, 0)), [.inr (.inr 4), .inr (.inr 65), .inr (.inr 65)], [])], [])
def kx119_a : List fx_N := [(5, [(1, .inr (.inr 65)), (2, .inr (.inr 65)), (3, .inl (0, 8)), (4, .inl (0, 8))], [], [(0, 0), (1, 3), (0, 0)], [(1, 0), (2, 1)])]
def kx119_s : List fx_D := []
def kx119_x : fx_X := ([], [(39, 1, 1)], [], [], [], [(25, 43, 1, kx118_c), (30, 43, 1, kx118_c)])
set_option maxRecDepth 100000 in
theorem kx119_k : fx_chk TX 5 kx119_c 3 kx119_x t_X4_isComing kx119_a kx119_s 21 = true := by decide +kernel
set_option maxRecDepth 100000 in
theorem kx119 {l : Launch} {E : (Nat → Prop) → State → Prop} {ad : List Nat} {D : va_G} {gs : List Nat} {cy : Nat → ClassId} (h : fxX E D cy) : fx_Met l yX4_isComing (.code yX4_isComing cX4_isComing 5 (some .boolean) :: wsL_law) ({ frames := 1, cells := 0, slots := 0, locals := 21 }) E (gs, TX, cy, fun _ => True) ad D classes kx119_c :=
  fx_sound (x := kx119_x) (tb := t_X4_isComing) (an := kx119_a) (sp := kx119_s) (rk := 3) 21 h.1 (fun _ _ _ _ _ _ => trivial) (fun _ _ _ _ _ _ => trivial) (ht_tys cy) (by decide) rfl ⟨fx_an, (fx_ac fl_X4_39 (fx_an)), fx_an, fx_an, fx_an, (fx_ac (ev_V (kx118 h) (by decide) rfl ⟨by decide, by decide⟩ iV_X1_at g_X4_43) (fx_ac (ev_V (kx118 h) (by decide) rfl ⟨by decide, by decide⟩ iV_X1_at g_X4_43) (fx_an)))⟩ d_X4_isComing kx119_k
-- X7_open 6 8 3
def kx120_c : fx_C := ([.inr (.inr 7), .inr (.inr 9), .inr (.inr 4)], [], [(none, [.inr (.inr 7), .inr (.inr 9), .inr (.inr 4)], [((0, 10), .inl (0, 0))])], [(7, 9), (7, 10), (1000, 36)])
def kx120_a : List fx_N := [(19, [(0, .inr (.inr 7)), (1, .inr (.inr 9)), (2, .inr (.inr 4)), (3, .inl (0, 5))], [((0, 10), .inl (0, 0))], [(0, 0), (1, 3), (0, 1), (0, 0), (0, 0)], [(0, 0), (1, 1), (2, 2)]), (37, [(0, .inr (.inr 7)), (1, .inr (.inr 9)), (2, .inr (.inr 4)), (3, .inl (0, 4)), (4, .inl (0, 5))], [((0, 9), .inl (1, 5)), ((0, 10), .inl (0, 0))], [(0, 0), (1, 3), (0, 0), (1, 4), (0, 0)], [(0, 0), (1, 1), (2, 2)])]
def kx120_s : List fx_D := []
def kx120_x : fx_X := ([], [(9, 7, 0), (45, 10, 9), (57, 7, 9)], [(57, 7, 9, 0), (58, 7, 10, 0)], [], [], [(6, 51, 1002, ([], [], [], [])), (49, 61, 10, kx117_c), (56, 61, 10, kx117_c), (76, 65, 4, kx119_c)])
set_option maxRecDepth 100000 in
theorem kx120_k : fx_chk TX 7 kx120_c 9 kx120_x t_X7_open kx120_a kx120_s 36 = true := by decide +kernel
set_option maxRecDepth 100000 in
theorem kx120 {l : Launch} {E : (Nat → Prop) → State → Prop} {ad : List Nat} {D : va_G} {gs : List Nat} {cy : Nat → ClassId} (h : fxX E D cy) : fx_Met l yX7_open (.code yX7_open cX7_open 7 none :: wsL_law) ({ frames := 2, cells := 0, slots := 0, locals := 45 }) E (gs, TX, cy, fun _ => True) ad D classes kx120_c :=
  fx_sound (x := kx120_x) (tb := t_X7_open) (an := kx120_a) (sp := kx120_s) (rk := 9) 36 h.1 (fun _ _ _ _ _ _ => trivial) (fun _ _ _ _ _ _ => trivial) (ht_tys cy) (by decide) rfl ⟨fx_an, (fx_ac fl_X7_9 (fx_ac fl_X7_45 (fx_ac fl_X7_57 (fx_an)))), (fx_ac pl_X7_57 (fx_ac pl_X7_58 (fx_an))), fx_an, fx_an, (fx_ac (ev_M (by decide) ⟨by decide, by decide, m_137, m_593, m_396, m_397⟩) (fx_ac (ev_V (kx117 h) (by decide) rfl ⟨by decide, by decide⟩ iV_X10_slipAt g_X7_61) (fx_ac (ev_V (kx117 h) (by decide) rfl ⟨by decide, by decide⟩ iV_X10_slipAt g_X7_61) (fx_ac (ev_V (kx119 h) (by decide) rfl ⟨by decide, by decide⟩ iV_X4_isComing g_X7_65) (fx_an)))))⟩ d_X7_open kx120_k
-- X11_table 0
def kx121_c : fx_C := ([.inr (.inr 1)], [], [(some (.inl (-1, -1)), [.inr (.inr 1)], []), (some (.inl (0, 5)), [.inr (.inr 1)], [((0, 0), .inr (.inr 2)), ((1, 2), .inl (0, 0)), ((0, 5), .inr (.inr 7)), ((3, 10), .inl (0, 0)), ((1, 0), .inr (.inr 8)), ((5, 2), .inl (0, 0))])], [(0, 4), (0, 6), (0, 7), (1, 1), (5, 5), (5, 6), (6, 1), (6, 2), (6, 3), (7, 9), (7, 10), (8, 1), (8, 2), (9, 2), (9, 3), (9, 4), (9, 5), (9, 6), (9, 7), (10, 7), (10, 8), (10, 9), (10, 10), (10, 11), (11, 8), (1000, 14), (1000, 17), (1000, 18), (1000, 21), (1000, 22), (1000, 23), (1000, 24), (1000, 30), (1000, 36), (1000, 44)])
def kx121_a : List fx_N := []
def kx121_s : List fx_D := []
def kx121_x : fx_X := ([], [(10, 11, 0), (19, 11, 1), (26, 11, 2), (47, 11, 5), (56, 11, 6), (66, 11, 8), (70, 6, 0), (105, 10, 9)], [(66, 11, 8, 4), (83, 9, 2, 0)], [], [], [(4, 87, 6, kx109_c), (21, 91, 6, kx110_c), (42, 95, 1, kx111_c), (53, 98, 5, kx116_c), (68, 102, 7, kx120_c)])
set_option maxRecDepth 100000 in
theorem kx121_k : fx_chk TX 1 kx121_c 0 kx121_x t_X11_table kx121_a kx121_s 37 = true := by decide +kernel
set_option maxRecDepth 100000 in
theorem kx121 {l : Launch} {E : (Nat → Prop) → State → Prop} {ad : List Nat} {D : va_G} {gs : List Nat} {cy : Nat → ClassId} (h : fxX E D cy) : fx_Met l yX11_table (.code yX11_table cX11_table 1 (some .int) :: wsL_law) ({ frames := 62, cells := 0, slots := 0, locals := 1372 }) E (gs, TX, cy, fun _ => True) ad D classes kx121_c :=
  fx_sound (x := kx121_x) (tb := t_X11_table) (an := kx121_a) (sp := kx121_s) (rk := 0) 37 h.1 (fun _ _ _ _ _ _ => trivial) (fun _ _ _ _ _ _ => trivial) (ht_tys cy) (by decide) rfl ⟨fx_an, (fx_ac fl_X11_10 (fx_ac fl_X11_19 (fx_ac fl_X11_26 (fx_ac fl_X11_47 (fx_ac fl_X11_56 (fx_ac fl_X11_66 (fx_ac fl_X11_70 (fx_ac fl_X11_105 (fx_an))))))))), (fx_ac pl_X11_66 (fx_ac pl_X11_83 (fx_an))), fx_an, fx_an, (fx_ac (ev_V (kx109 h) (by decide) rfl ⟨by decide, by decide⟩ iV_X6_readTable g_X11_87) (fx_ac (ev_V (kx110 h) (by decide) rfl ⟨by decide, by decide⟩ iV_X6_handOver g_X11_91) (fx_ac (ev_V (kx111 h) (by decide) rfl ⟨by decide, by decide⟩ iV_X1_clear g_X11_95) (fx_ac (ev_V (kx116 h) (by decide) rfl ⟨by decide, by decide⟩ iV_X5_open g_X11_98) (fx_ac (ev_V (kx120 h) (by decide) rfl ⟨by decide, by decide⟩ iV_X7_open g_X11_102) (fx_an))))))⟩ d_X11_table kx121_k
-- X11_fault 0 i
def kx122_c : fx_C := ([.inr (.inr 1), .inl (-2147483648, 2147483647)], [], [(some (.inl (-1, -1)), [.inr (.inr 1), .inl (-2147483648, 2147483647)], []), (some (.inl (-2147483648, 2147483647)), [.inr (.inr 1), .inl (0, 1)], [])], [])
def kx122_a : List fx_N := []
def kx122_s : List fx_D := []
def kx122_x : fx_X := ([], [(10, 11, 0), (108, 6, 2), (111, 6, 3)], [], [], [], [])
set_option maxRecDepth 100000 in
theorem kx122_k : fx_chk TX 2 kx122_c 0 kx122_x t_X11_fault kx122_a kx122_s 8 = true := by decide +kernel
set_option maxRecDepth 100000 in
theorem kx122 {l : Launch} {E : (Nat → Prop) → State → Prop} {ad : List Nat} {D : va_G} {gs : List Nat} {cy : Nat → ClassId} (h : fxX E D cy) : fx_Met l yX11_fault (.code yX11_fault cX11_fault 2 (some .int) :: wsL_law) ({ frames := 0, cells := 0, slots := 0, locals := 0 }) E (gs, TX, cy, fun _ => True) ad D classes kx122_c :=
  fx_sound (x := kx122_x) (tb := t_X11_fault) (an := kx122_a) (sp := kx122_s) (rk := 0) 8 h.1 (fun _ _ _ _ _ _ => trivial) (fun _ _ _ _ _ _ => trivial) (ht_tys cy) (by decide) rfl ⟨fx_an, (fx_ac fl_X11_10 (fx_ac fl_X11_108 (fx_ac fl_X11_111 (fx_an)))), fx_an, fx_an, fx_an, fx_an⟩ d_X11_fault kx122_k
-- X11_word 0 i
def kx123_c : fx_C := ([.inr (.inr 1), .inl (-2147483648, 2147483647)], [], [(some (.inl (-1, -1)), [.inr (.inr 1), .inl (-2147483648, 2147483647)], []), (some (.inl (-2147483648, 2147483647)), [.inr (.inr 1), .inl (0, 11)], [((0, 1), .inr (.inr 3)), ((2, 0), .inr (.inr 11)), ((3, 0), .inr (.inr 12)), ((4, 1), .inl (1, 12))])], [])
def kx123_a : List fx_N := []
def kx123_s : List fx_D := []
def kx123_x : fx_X := ([], [(19, 11, 1), (114, 5, 0), (118, 8, 0)], [], [], [], [(11, 123, 1, kx112_c)])
set_option maxRecDepth 100000 in
theorem kx123_k : fx_chk TX 2 kx123_c 0 kx123_x t_X11_word kx123_a kx123_s 9 = true := by decide +kernel
set_option maxRecDepth 100000 in
theorem kx123 {l : Launch} {E : (Nat → Prop) → State → Prop} {ad : List Nat} {D : va_G} {gs : List Nat} {cy : Nat → ClassId} (h : fxX E D cy) : fx_Met l yX11_word (.code yX11_word cX11_word 2 (some .int) :: wsL_law) ({ frames := 1, cells := 0, slots := 0, locals := 21 }) E (gs, TX, cy, fun _ => True) ad D classes kx123_c :=
  fx_sound (x := kx123_x) (tb := t_X11_word) (an := kx123_a) (sp := kx123_s) (rk := 0) 9 h.1 (fun _ _ _ _ _ _ => trivial) (fun _ _ _ _ _ _ => trivial) (ht_tys cy) (by decide) rfl ⟨fx_an, (fx_ac fl_X11_19 (fx_ac fl_X11_114 (fx_ac fl_X11_118 (fx_an)))), fx_an, fx_an, fx_an, (fx_ac (ev_V (kx112 h) (by decide) rfl ⟨by decide, by decide⟩ iV_X1_at g_X11_123) (fx_an))⟩ d_X11_word kx123_k
-- X11_slipOf 0 i
def kx124_c : fx_C := ([.inr (.inr 1), .inl (-2147483648, 2147483647)], [], [(some (.inr (.inr 0)), [.inr (.inr 1), .inl (-2147483648, 2147483647)], []), (some (.inr (.inr 65)), [.inr (.inr 1), .inl (0, 4)], [((0, 8), .inr (.inr 9)), ((2, 9), .inl (1, 5))])], [])
def kx124_a : List fx_N := []
def kx124_s : List fx_D := []
def kx124_x : fx_X := ([], [(66, 11, 8)], [], [], [], [(5, 336, 10, kx117_c)])
set_option maxRecDepth 100000 in
theorem kx124_k : fx_chk TX 2 kx124_c 4 kx124_x t_X11_slipOf kx124_a kx124_s 7 = true := by decide +kernel
set_option maxRecDepth 100000 in
theorem kx124 {l : Launch} {E : (Nat → Prop) → State → Prop} {ad : List Nat} {D : va_G} {gs : List Nat} {cy : Nat → ClassId} (h : fxX E D cy) : fx_Met l yX11_slipOf (.code yX11_slipOf cX11_slipOf 2 (some (.object "LostWords$Line")) :: wsL_law) ({ frames := 1, cells := 0, slots := 0, locals := 21 }) E (gs, TX, cy, fun _ => True) ad D classes kx124_c :=
  fx_sound (x := kx124_x) (tb := t_X11_slipOf) (an := kx124_a) (sp := kx124_s) (rk := 4) 7 h.1 (fun _ _ _ _ _ _ => trivial) (fun _ _ _ _ _ _ => trivial) (ht_tys cy) (by decide) ⟨_, rfl⟩ ⟨fx_an, (fx_ac fl_X11_66 (fx_an)), fx_an, fx_an, fx_an, (fx_ac (ev_V (kx117 h) (by decide) rfl ⟨by decide, by decide⟩ iV_X10_slipAt g_X11_336) (fx_an))⟩ d_X11_slipOf kx124_k
-- X11_slip 0 i i
def kx125_c : fx_C := ([.inr (.inr 1), .inl (-2147483648, 2147483647), .inl (-2147483648, 2147483647)], [], [(some (.inl (-1, -1)), [.inr (.inr 1), .inl (-2147483648, 2147483647), .inl (-2147483648, 2147483647)], []), (some (.inl (-2147483648, 2147483647)), [.inr (.inr 1), .inl (0, 4), .inl (0, 7)], [((0, 8), .inr (.inr 9)), ((3, 9), .inl (1, 5))])], [])
def kx125_a : List fx_N := []
def kx125_s : List fx_D := []
def kx125_x : fx_X := ([], [], [], [], [], [(2, 127, 11, kx124_c), (16, 123, 1, kx118_c)])
set_option maxRecDepth 100000 in
theorem kx125_k : fx_chk TX 4 kx125_c 0 kx125_x t_X11_slip kx125_a kx125_s 12 = true := by decide +kernel
set_option maxRecDepth 100000 in
theorem kx125 {l : Launch} {E : (Nat → Prop) → State → Prop} {ad : List Nat} {D : va_G} {gs : List Nat} {cy : Nat → ClassId} (h : fxX E D cy) : fx_Met l yX11_slip (.code yX11_slip cX11_slip 4 (some .int) :: wsL_law) ({ frames := 2, cells := 0, slots := 0, locals := 42 }) E (gs, TX, cy, fun _ => True) ad D classes kx125_c :=
  fx_sound (x := kx125_x) (tb := t_X11_slip) (an := kx125_a) (sp := kx125_s) (rk := 0) 12 h.1 (fun _ _ _ _ _ _ => trivial) (fun _ _ _ _ _ _ => trivial) (ht_tys cy) (by decide) rfl ⟨fx_an, fx_an, fx_an, fx_an, fx_an, (fx_ac (ev_V (kx124 h) (by decide) rfl ⟨by decide, by decide⟩ iV_X11_slipOf g_X11_127) (fx_ac (ev_V (kx118 h) (by decide) rfl ⟨by decide, by decide⟩ iV_X1_at g_X11_123) (fx_an)))⟩ d_X11_slip kx125_k
-- X11_lineOf 0 i
def kx126_c : fx_C := ([.inr (.inr 1), .inl (-2147483648, 2147483647)], [], [(some (.inr (.inr 12)), [.inr (.inr 1), .inl (-1, -1)], []), (some (.inr (.inr 0)), [.inr (.inr 1), .inl (-2147483648, 2147483647)], []), (some (.inr (.inr 65)), [.inr (.inr 1), .inl (0, 4)], [((0, 8), .inr (.inr 9)), ((2, 9), .inl (1, 5))])], [])
def kx126_a : List fx_N := []
def kx126_s : List fx_D := []
def kx126_x : fx_X := ([], [(19, 11, 1), (66, 11, 8), (114, 5, 0), (118, 8, 0)], [], [], [], [(23, 336, 10, kx117_c)])
set_option maxRecDepth 100000 in
theorem kx126_k : fx_chk TX 2 kx126_c 4 kx126_x t_X11_lineOf kx126_a kx126_s 11 = true := by decide +kernel
set_option maxRecDepth 100000 in
theorem kx126 {l : Launch} {E : (Nat → Prop) → State → Prop} {ad : List Nat} {D : va_G} {gs : List Nat} {cy : Nat → ClassId} (h : fxX E D cy) : fx_Met l yX11_lineOf (.code yX11_lineOf cX11_lineOf 2 (some (.object "LostWords$Line")) :: wsL_law) ({ frames := 1, cells := 0, slots := 0, locals := 21 }) E (gs, TX, cy, fun _ => True) ad D classes kx126_c :=
  fx_sound (x := kx126_x) (tb := t_X11_lineOf) (an := kx126_a) (sp := kx126_s) (rk := 4) 11 h.1 (fun _ _ _ _ _ _ => trivial) (fun _ _ _ _ _ _ => trivial) (ht_tys cy) (by decide) ⟨_, rfl⟩ ⟨fx_an, (fx_ac fl_X11_19 (fx_ac fl_X11_66 (fx_ac fl_X11_114 (fx_ac fl_X11_118 (fx_an))))), fx_an, fx_an, fx_an, (fx_ac (ev_V (kx117 h) (by decide) rfl ⟨by decide, by decide⟩ iV_X10_slipAt g_X11_336) (fx_an))⟩ d_X11_lineOf kx126_k
-- X11_size 0 i
def kx127_c : fx_C := ([.inr (.inr 1), .inl (-2147483648, 2147483647)], [], [(some (.inl (0, 12)), [.inr (.inr 1), .inl (-1, 4)], []), (some (.inl (-1, -1)), [.inr (.inr 1), .inl (-2147483648, 2147483647)], [])], [])
def kx127_a : List fx_N := []
def kx127_s : List fx_D := []
def kx127_x : fx_X := ([], [(134, 1, 1)], [], [], [], [(2, 131, 11, kx126_c)])
set_option maxRecDepth 100000 in
theorem kx127_k : fx_chk TX 3 kx127_c 0 kx127_x t_X11_size kx127_a kx127_s 11 = true := by decide +kernel
set_option maxRecDepth 100000 in
theorem kx127 {l : Launch} {E : (Nat → Prop) → State → Prop} {ad : List Nat} {D : va_G} {gs : List Nat} {cy : Nat → ClassId} (h : fxX E D cy) : fx_Met l yX11_size (.code yX11_size cX11_size 3 (some .int) :: wsL_law) ({ frames := 2, cells := 0, slots := 0, locals := 42 }) E (gs, TX, cy, fun _ => True) ad D classes kx127_c :=
  fx_sound (x := kx127_x) (tb := t_X11_size) (an := kx127_a) (sp := kx127_s) (rk := 0) 11 h.1 (fun _ _ _ _ _ _ => trivial) (fun _ _ _ _ _ _ => trivial) (ht_tys cy) (by decide) rfl ⟨fx_an, (fx_ac fl_X11_134 (fx_an)), fx_an, fx_an, fx_an, (fx_ac (ev_V (kx126 h) (by decide) rfl ⟨by decide, by decide⟩ iV_X11_lineOf g_X11_131) (fx_an))⟩ d_X11_size kx127_k
-- X10_worthOf 8 i
def kx128_c : fx_C := ([.inr (.inr 9), .inl (-2147483648, 2147483647)], [], [(some (.inl (0, 0)), [.inr (.inr 9), .inl (-2147483648, 2147483647)], []), (some (.inl (-2147483648, 2147483647)), [.inr (.inr 9), .inl (0, 8)], [((0, 7), .inl (1, 9))])], [])
def kx128_a : List fx_N := []
def kx128_s : List fx_D := []
def kx128_x : fx_X := ([], [(15, 10, 1)], [], [], [], [(2, 73, 10, kx103_c)])
set_option maxRecDepth 100000 in
theorem kx128_k : fx_chk TX 2 kx128_c 0 kx128_x t_X10_worthOf kx128_a kx128_s 12 = true := by decide +kernel
set_option maxRecDepth 100000 in
theorem kx128 {l : Launch} {E : (Nat → Prop) → State → Prop} {ad : List Nat} {D : va_G} {gs : List Nat} {cy : Nat → ClassId} (h : fxX E D cy) : fx_Met l yX10_worthOf (.code yX10_worthOf cX10_worthOf 2 (some .int) :: wsL_law) ({ frames := 1, cells := 0, slots := 0, locals := 21 }) E (gs, TX, cy, fun _ => True) ad D classes kx128_c :=
  fx_sound (x := kx128_x) (tb := t_X10_worthOf) (an := kx128_a) (sp := kx128_s) (rk := 0) 12 h.1 (fun _ _ _ _ _ _ => trivial) (fun _ _ _ _ _ _ => trivial) (ht_tys cy) (by decide) rfl ⟨fx_an, (fx_ac fl_X10_15 (fx_an)), fx_an, fx_an, fx_an, (fx_ac (ev_V (kx103 h) (by decide) rfl ⟨by decide, by decide⟩ iV_X10_hasWord g_X10_73) (fx_an))⟩ d_X10_worthOf kx128_k
-- X11_worth 0 i
def kx129_c : fx_C := ([.inr (.inr 1), .inl (-2147483648, 2147483647)], [], [(some (.inl (-1, -1)), [.inr (.inr 1), .inl (-2147483648, 2147483647)], []), (some (.inl (-2147483648, 2147483647)), [.inr (.inr 1), .inl (0, 8)], [((0, 8), .inr (.inr 9)), ((2, 7), .inl (1, 9))]), (some (.inl (0, 0)), [.inr (.inr 1), .inl (0, 8)], [((0, 8), .inr (.inr 9)), ((2, 7), .inl (1, 9))])], [])
def kx129_a : List fx_N := []
def kx129_s : List fx_D := []
def kx129_x : fx_X := ([], [(66, 11, 8)], [], [], [], [(5, 137, 10, kx103_c), (16, 140, 10, kx128_c)])
set_option maxRecDepth 100000 in
theorem kx129_k : fx_chk TX 2 kx129_c 0 kx129_x t_X11_worth kx129_a kx129_s 13 = true := by decide +kernel
set_option maxRecDepth 100000 in
theorem kx129 {l : Launch} {E : (Nat → Prop) → State → Prop} {ad : List Nat} {D : va_G} {gs : List Nat} {cy : Nat → ClassId} (h : fxX E D cy) : fx_Met l yX11_worth (.code yX11_worth cX11_worth 2 (some .int) :: wsL_law) ({ frames := 2, cells := 0, slots := 0, locals := 42 }) E (gs, TX, cy, fun _ => True) ad D classes kx129_c :=
  fx_sound (x := kx129_x) (tb := t_X11_worth) (an := kx129_a) (sp := kx129_s) (rk := 0) 13 h.1 (fun _ _ _ _ _ _ => trivial) (fun _ _ _ _ _ _ => trivial) (ht_tys cy) (by decide) rfl ⟨fx_an, (fx_ac fl_X11_66 (fx_an)), fx_an, fx_an, fx_an, (fx_ac (ev_V (kx103 h) (by decide) rfl ⟨by decide, by decide⟩ iV_X10_hasWord g_X11_137) (fx_ac (ev_V (kx128 h) (by decide) rfl ⟨by decide, by decide⟩ iV_X10_worthOf g_X11_140) (fx_an)))⟩ d_X11_worth kx129_k
-- X10_weightOf 8 i i
def kx130_c : fx_C := ([.inr (.inr 9), .inl (-2147483648, 2147483647), .inl (-2147483648, 2147483647)], [], [(some (.inl (0, 0)), [.inr (.inr 9), .inl (-2147483648, 2147483647), .inl (-2147483648, 2147483647)], []), (some (.inl (-2147483648, 2147483647)), [.inr (.inr 9), .inl (0, 8), .inl (0, 8)], [((0, 7), .inl (1, 9))])], [])
def kx130_a : List fx_N := []
def kx130_s : List fx_D := []
def kx130_x : fx_X := ([], [(19, 10, 2)], [], [], [], [(2, 73, 10, kx103_c), (10, 73, 10, kx103_c)])
set_option maxRecDepth 100000 in
theorem kx130_k : fx_chk TX 3 kx130_c 0 kx130_x t_X10_weightOf kx130_a kx130_s 20 = true := by decide +kernel
set_option maxRecDepth 100000 in
theorem kx130 {l : Launch} {E : (Nat → Prop) → State → Prop} {ad : List Nat} {D : va_G} {gs : List Nat} {cy : Nat → ClassId} (h : fxX E D cy) : fx_Met l yX10_weightOf (.code yX10_weightOf cX10_weightOf 3 (some .int) :: wsL_law) ({ frames := 1, cells := 0, slots := 0, locals := 21 }) E (gs, TX, cy, fun _ => True) ad D classes kx130_c :=
  fx_sound (x := kx130_x) (tb := t_X10_weightOf) (an := kx130_a) (sp := kx130_s) (rk := 0) 20 h.1 (fun _ _ _ _ _ _ => trivial) (fun _ _ _ _ _ _ => trivial) (ht_tys cy) (by decide) rfl ⟨fx_an, (fx_ac fl_X10_19 (fx_an)), fx_an, fx_an, fx_an, (fx_ac (ev_V (kx103 h) (by decide) rfl ⟨by decide, by decide⟩ iV_X10_hasWord g_X10_73) (fx_ac (ev_V (kx103 h) (by decide) rfl ⟨by decide, by decide⟩ iV_X10_hasWord g_X10_73) (fx_an)))⟩ d_X10_weightOf kx130_k
-- X11_beside 0 i i
def kx131_c : fx_C := ([.inr (.inr 1), .inl (-2147483648, 2147483647), .inl (-2147483648, 2147483647)], [], [(some (.inl (-1000000, -1000000)), [.inr (.inr 1), .inl (-2147483648, 2147483647), .inl (-2147483648, 2147483647)], []), (some (.inl (-2147483648, 2147483647)), [.inr (.inr 1), .inl (0, 8), .inl (0, 8)], [((0, 8), .inr (.inr 9)), ((3, 7), .inl (1, 9))]), (some (.inl (0, 0)), [.inr (.inr 1), .inl (0, 8), .inl (0, 8)], [((0, 8), .inr (.inr 9)), ((3, 7), .inl (1, 9))])], [])
def kx131_a : List fx_N := []
def kx131_s : List fx_D := []
def kx131_x : fx_X := ([], [(66, 11, 8)], [], [(147, -1000000)], [], [(5, 137, 10, kx103_c), (16, 137, 10, kx103_c), (28, 143, 10, kx130_c)])
set_option maxRecDepth 100000 in
theorem kx131_k : fx_chk TX 3 kx131_c 0 kx131_x t_X11_beside kx131_a kx131_s 19 = true := by decide +kernel
set_option maxRecDepth 100000 in
theorem kx131 {l : Launch} {E : (Nat → Prop) → State → Prop} {ad : List Nat} {D : va_G} {gs : List Nat} {cy : Nat → ClassId} (h : fxX E D cy) : fx_Met l yX11_beside (.code yX11_beside cX11_beside 3 (some .int) :: wsL_law) ({ frames := 2, cells := 0, slots := 0, locals := 43 }) E (gs, TX, cy, fun _ => True) ad D classes kx131_c :=
  fx_sound (x := kx131_x) (tb := t_X11_beside) (an := kx131_a) (sp := kx131_s) (rk := 0) 19 h.1 (fun _ _ _ _ _ _ => trivial) (fun _ _ _ _ _ _ => trivial) (ht_tys cy) (by decide) rfl ⟨fx_an, (fx_ac fl_X11_66 (fx_an)), fx_an, (fx_ac kc_X11_147 (fx_an)), fx_an, (fx_ac (ev_V (kx103 h) (by decide) rfl ⟨by decide, by decide⟩ iV_X10_hasWord g_X11_137) (fx_ac (ev_V (kx103 h) (by decide) rfl ⟨by decide, by decide⟩ iV_X10_hasWord g_X11_137) (fx_ac (ev_V (kx130 h) (by decide) rfl ⟨by decide, by decide⟩ iV_X10_weightOf g_X11_143) (fx_an))))⟩ d_X11_beside kx131_k
-- X10_senseOf 8 64
def kx132_c : fx_C := ([.inr (.inr 9), .inr (.inr 65)], [], [(some (.inl (-2147483648, 2147483647)), [.inr (.inr 9), .inr (.inr 65)], [])], [])
def kx132_a : List fx_N := [(4, [(0, .inr (.inr 9)), (1, .inr (.inr 65)), (2, .inl (-2147483648, 2147483647)), (3, .inl (1, 8))], [], [(0, 0), (1, 3), (0, 0)], [(0, 0), (1, 1)])]
def kx132_s : List fx_D := []
def kx132_x : fx_X := ([], [(77, 1, 1)], [], [], [], [(18, 80, 1, kx118_c), (23, 80, 1, kx118_c), (26, 84, 10, kx130_c)])
set_option maxRecDepth 100000 in
theorem kx132_k : fx_chk TX 4 kx132_c 0 kx132_x t_X10_senseOf kx132_a kx132_s 22 = true := by decide +kernel
set_option maxRecDepth 100000 in
theorem kx132 {l : Launch} {E : (Nat → Prop) → State → Prop} {ad : List Nat} {D : va_G} {gs : List Nat} {cy : Nat → ClassId} (h : fxX E D cy) : fx_Met l yX10_senseOf (.code yX10_senseOf cX10_senseOf 4 (some .int) :: wsL_law) ({ frames := 2, cells := 0, slots := 0, locals := 43 }) E (gs, TX, cy, fun _ => True) ad D classes kx132_c :=
  fx_sound (x := kx132_x) (tb := t_X10_senseOf) (an := kx132_a) (sp := kx132_s) (rk := 0) 22 h.1 (fun _ _ _ _ _ _ => trivial) (fun _ _ _ _ _ _ => trivial) (ht_tys cy) (by decide) rfl ⟨fx_an, (fx_ac fl_X10_77 (fx_an)), fx_an, fx_an, fx_an, (fx_ac (ev_V (kx118 h) (by decide) rfl ⟨by decide, by decide⟩ iV_X1_at g_X10_80) (fx_ac (ev_V (kx118 h) (by decide) rfl ⟨by decide, by decide⟩ iV_X1_at g_X10_80) (fx_ac (ev_V (kx130 h) (by decide) rfl ⟨by decide, by decide⟩ iV_X10_weightOf g_X10_84) (fx_an))))⟩ d_X10_senseOf kx132_k
-- X10_senseOf 8 11
def kx133_c : fx_C := ([.inr (.inr 9), .inr (.inr 12)], [], [(some (.inl (-2147483648, 2147483647)), [.inr (.inr 9), .inr (.inr 12)], [])], [])
def kx133_a : List fx_N := [(4, [(0, .inr (.inr 9)), (1, .inr (.inr 12)), (2, .inl (-2147483648, 2147483647)), (3, .inl (1, 12))], [], [(0, 0), (1, 3), (0, 0)], [(0, 0), (1, 1)])]
def kx133_s : List fx_D := []
def kx133_x : fx_X := ([], [(77, 1, 1)], [], [], [], [(18, 80, 1, kx112_c), (23, 80, 1, kx112_c), (26, 84, 10, kx130_c)])
set_option maxRecDepth 100000 in
theorem kx133_k : fx_chk TX 4 kx133_c 0 kx133_x t_X10_senseOf kx133_a kx133_s 22 = true := by decide +kernel
set_option maxRecDepth 100000 in
theorem kx133 {l : Launch} {E : (Nat → Prop) → State → Prop} {ad : List Nat} {D : va_G} {gs : List Nat} {cy : Nat → ClassId} (h : fxX E D cy) : fx_Met l yX10_senseOf (.code yX10_senseOf cX10_senseOf 4 (some .int) :: wsL_law) ({ frames := 2, cells := 0, slots := 0, locals := 43 }) E (gs, TX, cy, fun _ => True) ad D classes kx133_c :=
  fx_sound (x := kx133_x) (tb := t_X10_senseOf) (an := kx133_a) (sp := kx133_s) (rk := 0) 22 h.1 (fun _ _ _ _ _ _ => trivial) (fun _ _ _ _ _ _ => trivial) (ht_tys cy) (by decide) rfl ⟨fx_an, (fx_ac fl_X10_77 (fx_an)), fx_an, fx_an, fx_an, (fx_ac (ev_V (kx112 h) (by decide) rfl ⟨by decide, by decide⟩ iV_X1_at g_X10_80) (fx_ac (ev_V (kx112 h) (by decide) rfl ⟨by decide, by decide⟩ iV_X1_at g_X10_80) (fx_ac (ev_V (kx130 h) (by decide) rfl ⟨by decide, by decide⟩ iV_X10_weightOf g_X10_84) (fx_an))))⟩ d_X10_senseOf kx133_k
-- X11_sense 0 i
def kx134_c : fx_C := ([.inr (.inr 1), .inl (-2147483648, 2147483647)], [], [(some (.inl (-2147483648, 2147483647)), [.inr (.inr 1), .inl (-1, 4)], []), (some (.inl (-1000000, -1000000)), [.inr (.inr 1), .inl (-2147483648, 2147483647)], [])], [])
def kx134_a : List fx_N := []
def kx134_s : List fx_D := []
def kx134_x : fx_X := ([], [(66, 11, 8)], [], [(147, -1000000)], [], [(2, 131, 11, kx126_c), (20, 148, 10, kx132_c), (20, 148, 10, kx133_c)])
set_option maxRecDepth 100000 in
theorem kx134_k : fx_chk TX 3 kx134_c 0 kx134_x t_X11_sense kx134_a kx134_s 13 = true := by decide +kernel
set_option maxRecDepth 100000 in
theorem kx134 {l : Launch} {E : (Nat → Prop) → State → Prop} {ad : List Nat} {D : va_G} {gs : List Nat} {cy : Nat → ClassId} (h : fxX E D cy) : fx_Met l yX11_sense (.code yX11_sense cX11_sense 3 (some .int) :: wsL_law) ({ frames := 3, cells := 0, slots := 0, locals := 66 }) E (gs, TX, cy, fun _ => True) ad D classes kx134_c :=
  fx_sound (x := kx134_x) (tb := t_X11_sense) (an := kx134_a) (sp := kx134_s) (rk := 0) 13 h.1 (fun _ _ _ _ _ _ => trivial) (fun _ _ _ _ _ _ => trivial) (ht_tys cy) (by decide) rfl ⟨fx_an, (fx_ac fl_X11_66 (fx_an)), fx_an, (fx_ac kc_X11_147 (fx_an)), fx_an, (fx_ac (ev_V (kx126 h) (by decide) rfl ⟨by decide, by decide⟩ iV_X11_lineOf g_X11_131) (fx_ac (ev_V (kx132 h) (by decide) rfl ⟨by decide, by decide⟩ iV_X10_senseOf g_X11_148) (fx_ac (ev_V (kx133 h) (by decide) rfl ⟨by decide, by decide⟩ iV_X10_senseOf g_X11_148) (fx_an))))⟩ d_X11_sense kx134_k
-- X1_has 11 i
def kx135_c : fx_C := ([.inr (.inr 12), .inl (-2147483648, 2147483647)], [], [(some (.inl (1, 1)), [.inr (.inr 12), .inl (0, 11)], [((0, 1), .inl (1, 12))]), (some (.inl (0, 0)), [.inr (.inr 12), .inl (-2147483648, 2147483647)], [])], [])
def kx135_a : List fx_N := []
def kx135_s : List fx_D := []
def kx135_x : fx_X := ([], [(15, 1, 0), (21, 1, 1)], [], [], [], [])
set_option maxRecDepth 100000 in
theorem kx135_k : fx_chk TX 2 kx135_c 3 kx135_x t_X1_has kx135_a kx135_s 16 = true := by decide +kernel
set_option maxRecDepth 100000 in
theorem kx135 {l : Launch} {E : (Nat → Prop) → State → Prop} {ad : List Nat} {D : va_G} {gs : List Nat} {cy : Nat → ClassId} (h : fxX E D cy) : fx_Met l yX1_has (.code yX1_has cX1_has 2 (some .boolean) :: wsL_law) ({ frames := 0, cells := 0, slots := 0, locals := 0 }) E (gs, TX, cy, fun _ => True) ad D classes kx135_c :=
  fx_sound (x := kx135_x) (tb := t_X1_has) (an := kx135_a) (sp := kx135_s) (rk := 3) 16 h.1 (fun _ _ _ _ _ _ => trivial) (fun _ _ _ _ _ _ => trivial) (ht_tys cy) (by decide) rfl ⟨fx_an, (fx_ac fl_X1_15 (fx_ac fl_X1_21 (fx_an))), fx_an, fx_an, fx_an, fx_an⟩ d_X1_has kx135_k
-- X0_know 9 i i
def kx136_c : fx_C := ([.inr (.inr 10), .inl (265, 511), .inl (-2147483648, 2147483647)], [], [(none, [.inr (.inr 10), .inl (265, 511), .inl (-2147483648, 2147483647)], [])], [(1000, 20)])
def kx136_a : List fx_N := []
def kx136_s : List fx_D := []
def kx136_x : fx_X := ([], [(21, 0, 3)], [], [], [], [])
set_option maxRecDepth 100000 in
theorem kx136_k : fx_chk TX 4 kx136_c 9 kx136_x t_X0_know kx136_a kx136_s 19 = true := by decide +kernel
set_option maxRecDepth 100000 in
theorem kx136 {l : Launch} {E : (Nat → Prop) → State → Prop} {ad : List Nat} {D : va_G} {gs : List Nat} {cy : Nat → ClassId} (h : fxX E D cy) : fx_Met l yX0_know (.code yX0_know cX0_know 4 none :: wsL_law) ({ frames := 0, cells := 0, slots := 0, locals := 0 }) E (gs, TX, cy, fun _ => True) ad D classes kx136_c :=
  fx_sound (x := kx136_x) (tb := t_X0_know) (an := kx136_a) (sp := kx136_s) (rk := 9) 19 h.1 (fun _ _ _ _ _ _ => trivial) (fun _ _ _ _ _ _ => trivial) (ht_tys cy) (by decide) rfl ⟨fx_an, (fx_ac fl_X0_21 (fx_an)), fx_an, fx_an, fx_an, fx_an⟩ d_X0_know kx136_k
