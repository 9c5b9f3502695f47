-- X6_readUnit 1 i ('c', 2)
def kx68_c : fx_C := ([.inr (.inr 2), .inl (2, 2)], [], [(some (.inl (0, 0)), [.inr (.inr 2), .inl (2, 2)], [((0, 2), .inl (1, 5))]), (some (.inl (1, 1)), [.inr (.inr 2), .inl (2, 2)], [((0, 1), .inr (.inr 9)), ((2, 6), .inr (.inr 10)), ((3, 4), .inl (1, 512)), ((3, 6), .inl (-2147483647, 30))])], [(0, 4), (0, 6), (6, 2), (6, 3), (9, 3), (9, 4), (9, 5), (9, 6), (9, 7), (1000, 17), (1000, 18)])
def kx68_a : List fx_N := []
def kx68_s : List fx_D := []
def kx68_x : fx_X := ([], [(12, 6, 0), (21, 6, 1), (38, 9, 4), (96, 9, 6), (116, 10, 6), (165, 0, 6)], [(165, 0, 6, 0)], [], [], [(24, 65, 6, kx19_c), (36, 168, 6, kx67_c), (47, 171, 1000, kx25_c), (54, 65, 6, kx19_c), (89, 144, 0, kx26_c), (96, 71, 9, kx16_c)])
set_option maxRecDepth 100000 in
theorem kx68_k : fx_chk TX 3 kx68_c 3 kx68_x t_X6_readUnit kx68_a kx68_s 42 = true := by decide +kernel
set_option maxRecDepth 100000 in
theorem kx68 {l : Launch} {E : (Nat → Prop) → State → Prop} {ad : List Nat} {D : va_G} {gs : List Nat} {cy : Nat → ClassId} (h : fxX E D cy) : fx_Met l yX6_readUnit (.code yX6_readUnit cX6_readUnit 3 (some .boolean) :: wsL_law) ({ frames := 40, cells := 0, slots := 0, locals := 887 }) E (gs, TX, cy, fun _ => True) ad D classes kx68_c :=
  fx_sound (x := kx68_x) (tb := t_X6_readUnit) (an := kx68_a) (sp := kx68_s) (rk := 3) 42 h.1 (fun _ _ _ _ _ _ => trivial) (fun _ _ _ _ _ _ => trivial) (ht_tys cy) (by decide) rfl ⟨fx_an, (fx_ac fl_X6_12 (fx_ac fl_X6_21 (fx_ac fl_X6_38 (fx_ac fl_X6_96 (fx_ac fl_X6_116 (fx_ac fl_X6_165 (fx_an))))))), (fx_ac pl_X6_165 (fx_an)), fx_an, fx_an, (fx_ac (ev_V (kx19 h) (by decide) rfl ⟨by decide, by decide⟩ iV_X6_refuse g_X6_65) (fx_ac (ev_V (kx67 h) (by decide) rfl ⟨by decide, by decide⟩ iV_X6_readBracket g_X6_168) (fx_ac (ev_S (kx25 h) ⟨by decide, by decide⟩ iS_X9_isKnownKey g_X6_171) (fx_ac (ev_V (kx19 h) (by decide) rfl ⟨by decide, by decide⟩ iV_X6_refuse g_X6_65) (fx_ac (ev_V (kx26 h) (by decide) rfl ⟨by decide, by decide⟩ iV_X0_add g_X6_144) (fx_ac (ev_V (kx16 h) (by decide) rfl ⟨by decide, by decide⟩ iV_X9_advance g_X6_71) (fx_an)))))))⟩ d_X6_readUnit kx68_k
-- X6_readTerm 1 i ('c', 2)
def kx69_c : fx_C := ([.inr (.inr 2), .inl (2, 2)], [], [(some (.inl (0, 0)), [.inr (.inr 2), .inl (2, 2)], [((0, 2), .inl (1, 5))]), (some (.inl (1, 1)), [.inr (.inr 2), .inl (2, 2)], [((0, 1), .inr (.inr 9)), ((2, 6), .inr (.inr 10)), ((3, 4), .inl (1, 512)), ((3, 6), .inl (-2147483647, 30))])], [(0, 4), (0, 6), (6, 2), (6, 3), (9, 3), (9, 4), (9, 5), (9, 6), (9, 7), (1000, 17), (1000, 18)])
def kx69_a : List fx_N := [(12, [(0, .inr (.inr 2)), (1, .inl (2, 2)), (2, .inl (0, 1600))], [((0, 1), .inr (.inr 9)), ((3, 6), .inr (.inr 10)), ((4, 4), .inl (1, 512)), ((4, 6), .inl (-2147483647, 30))], [(0, 0), (1, 2), (0, 0)], [(0, 0), (1, 1)])]
def kx69_s : List fx_D := []
def kx69_x : fx_X := ([], [(12, 6, 0), (21, 6, 1), (38, 9, 4), (116, 10, 6)], [], [], [], [(2, 159, 6, kx68_c), (26, 162, 1000, kx28_c), (44, 71, 9, kx16_c), (49, 159, 6, kx68_c), (66, 144, 0, kx26_c)])
set_option maxRecDepth 100000 in
theorem kx69_k : fx_chk TX 4 kx69_c 3 kx69_x t_X6_readTerm kx69_a kx69_s 30 = true := by decide +kernel
set_option maxRecDepth 100000 in
theorem kx69 {l : Launch} {E : (Nat → Prop) → State → Prop} {ad : List Nat} {D : va_G} {gs : List Nat} {cy : Nat → ClassId} (h : fxX E D cy) : fx_Met l yX6_readTerm (.code yX6_readTerm cX6_readTerm 4 (some .boolean) :: wsL_law) ({ frames := 41, cells := 0, slots := 0, locals := 909 }) E (gs, TX, cy, fun _ => True) ad D classes kx69_c :=
  fx_sound (x := kx69_x) (tb := t_X6_readTerm) (an := kx69_a) (sp := kx69_s) (rk := 3) 30 h.1 (fun _ _ _ _ _ _ => trivial) (fun _ _ _ _ _ _ => trivial) (ht_tys cy) (by decide) rfl ⟨fx_an, (fx_ac fl_X6_12 (fx_ac fl_X6_21 (fx_ac fl_X6_38 (fx_ac fl_X6_116 (fx_an))))), fx_an, fx_an, fx_an, (fx_ac (ev_V (kx68 h) (by decide) rfl ⟨by decide, by decide⟩ iV_X6_readUnit g_X6_159) (fx_ac (ev_S (kx28 h) ⟨by decide, by decide⟩ iS_X6_isTermSign g_X6_162) (fx_ac (ev_V (kx16 h) (by decide) rfl ⟨by decide, by decide⟩ iV_X9_advance g_X6_71) (fx_ac (ev_V (kx68 h) (by decide) rfl ⟨by decide, by decide⟩ iV_X6_readUnit g_X6_159) (fx_ac (ev_V (kx26 h) (by decide) rfl ⟨by decide, by decide⟩ iV_X0_add g_X6_144) (fx_an))))))⟩ d_X6_readTerm kx69_k
-- X6_readSum 1 i ('c', 2)
def kx70_c : fx_C := ([.inr (.inr 2), .inl (2, 2)], [], [(some (.inl (0, 0)), [.inr (.inr 2), .inl (2, 2)], [((0, 2), .inl (1, 5))]), (some (.inl (1, 1)), [.inr (.inr 2), .inl (2, 2)], [((0, 1), .inr (.inr 9)), ((2, 6), .inr (.inr 10)), ((3, 4), .inl (1, 512)), ((3, 6), .inl (-2147483647, 30))])], [(0, 4), (0, 6), (6, 2), (6, 3), (9, 3), (9, 4), (9, 5), (9, 6), (9, 7), (1000, 17), (1000, 18)])
def kx70_a : List fx_N := [(12, [(0, .inr (.inr 2)), (1, .inl (2, 2)), (2, .inl (0, 1600))], [((0, 1), .inr (.inr 9)), ((3, 6), .inr (.inr 10)), ((4, 4), .inl (1, 512)), ((4, 6), .inl (-2147483647, 30))], [(0, 0), (1, 2), (0, 0)], [(0, 0), (1, 1)])]
def kx70_s : List fx_D := []
def kx70_x : fx_X := ([], [(12, 6, 0), (21, 6, 1), (38, 9, 4), (116, 10, 6)], [], [], [], [(2, 156, 6, kx69_c), (55, 71, 9, kx16_c), (60, 156, 6, kx69_c), (77, 144, 0, kx26_c)])
set_option maxRecDepth 100000 in
theorem kx70_k : fx_chk TX 4 kx70_c 3 kx70_x t_X6_readSum kx70_a kx70_s 35 = true := by decide +kernel
set_option maxRecDepth 100000 in
theorem kx70 {l : Launch} {E : (Nat → Prop) → State → Prop} {ad : List Nat} {D : va_G} {gs : List Nat} {cy : Nat → ClassId} (h : fxX E D cy) : fx_Met l yX6_readSum (.code yX6_readSum cX6_readSum 4 (some .boolean) :: wsL_law) ({ frames := 42, cells := 0, slots := 0, locals := 932 }) E (gs, TX, cy, fun _ => True) ad D classes kx70_c :=
  fx_sound (x := kx70_x) (tb := t_X6_readSum) (an := kx70_a) (sp := kx70_s) (rk := 3) 35 h.1 (fun _ _ _ _ _ _ => trivial) (fun _ _ _ _ _ _ => trivial) (ht_tys cy) (by decide) rfl ⟨fx_an, (fx_ac fl_X6_12 (fx_ac fl_X6_21 (fx_ac fl_X6_38 (fx_ac fl_X6_116 (fx_an))))), fx_an, fx_an, fx_an, (fx_ac (ev_V (kx69 h) (by decide) rfl ⟨by decide, by decide⟩ iV_X6_readTerm g_X6_156) (fx_ac (ev_V (kx16 h) (by decide) rfl ⟨by decide, by decide⟩ iV_X9_advance g_X6_71) (fx_ac (ev_V (kx69 h) (by decide) rfl ⟨by decide, by decide⟩ iV_X6_readTerm g_X6_156) (fx_ac (ev_V (kx26 h) (by decide) rfl ⟨by decide, by decide⟩ iV_X0_add g_X6_144) (fx_an)))))⟩ d_X6_readSum kx70_k
-- X6_readOne 1 i ('c', 2)
def kx71_c : fx_C := ([.inr (.inr 2), .inl (2, 2)], [], [(some (.inl (0, 0)), [.inr (.inr 2), .inl (2, 2)], [((0, 2), .inl (1, 5))]), (some (.inl (1, 1)), [.inr (.inr 2), .inl (2, 2)], [((0, 1), .inr (.inr 9)), ((2, 6), .inr (.inr 10)), ((3, 4), .inl (1, 512)), ((3, 6), .inl (-2147483647, 30))])], [(0, 4), (0, 6), (6, 2), (6, 3), (9, 3), (9, 4), (9, 5), (9, 6), (9, 7), (1000, 17), (1000, 18)])
def kx71_a : List fx_N := []
def kx71_s : List fx_D := []
def kx71_x : fx_X := ([], [(12, 6, 0), (21, 6, 1), (38, 9, 4), (116, 10, 6)], [], [], [], [(15, 150, 6, kx64_c), (21, 153, 6, kx70_c), (61, 71, 9, kx16_c), (66, 153, 6, kx70_c), (83, 144, 0, kx26_c)])
set_option maxRecDepth 100000 in
theorem kx71_k : fx_chk TX 3 kx71_c 3 kx71_x t_X6_readOne kx71_a kx71_s 39 = true := by decide +kernel
set_option maxRecDepth 100000 in
theorem kx71 {l : Launch} {E : (Nat → Prop) → State → Prop} {ad : List Nat} {D : va_G} {gs : List Nat} {cy : Nat → ClassId} (h : fxX E D cy) : fx_Met l yX6_readOne (.code yX6_readOne cX6_readOne 3 (some .boolean) :: wsL_law) ({ frames := 43, cells := 0, slots := 0, locals := 955 }) E (gs, TX, cy, fun _ => True) ad D classes kx71_c :=
  fx_sound (x := kx71_x) (tb := t_X6_readOne) (an := kx71_a) (sp := kx71_s) (rk := 3) 39 h.1 (fun _ _ _ _ _ _ => trivial) (fun _ _ _ _ _ _ => trivial) (ht_tys cy) (by decide) rfl ⟨fx_an, (fx_ac fl_X6_12 (fx_ac fl_X6_21 (fx_ac fl_X6_38 (fx_ac fl_X6_116 (fx_an))))), fx_an, fx_an, fx_an, (fx_ac (ev_V (kx64 h) (by decide) rfl ⟨by decide, by decide⟩ iV_X6_readNot g_X6_150) (fx_ac (ev_V (kx70 h) (by decide) rfl ⟨by decide, by decide⟩ iV_X6_readSum g_X6_153) (fx_ac (ev_V (kx16 h) (by decide) rfl ⟨by decide, by decide⟩ iV_X9_advance g_X6_71) (fx_ac (ev_V (kx70 h) (by decide) rfl ⟨by decide, by decide⟩ iV_X6_readSum g_X6_153) (fx_ac (ev_V (kx26 h) (by decide) rfl ⟨by decide, by decide⟩ iV_X0_add g_X6_144) (fx_an))))))⟩ d_X6_readOne kx71_k
-- X6_readNot 1 i ('c', 1)
def kx72_c : fx_C := ([.inr (.inr 2), .inl (1, 1)], [], [(some (.inl (1, 1)), [.inr (.inr 2), .inl (1, 1)], [((0, 1), .inr (.inr 9)), ((2, 6), .inr (.inr 10)), ((3, 4), .inl (1, 512)), ((3, 6), .inl (-2147483647, 30))]), (some (.inl (0, 0)), [.inr (.inr 2), .inl (1, 1)], [((0, 2), .inl (1, 5))])], [(0, 4), (0, 6), (6, 2), (6, 3), (9, 3), (9, 4), (9, 5), (9, 6), (9, 7), (1000, 17), (1000, 18)])
def kx72_a : List fx_N := []
def kx72_s : List fx_D := []
def kx72_x : fx_X := ([], [(12, 6, 0), (21, 6, 1), (116, 10, 6)], [], [], [], [(15, 71, 9, kx16_c), (22, 147, 6, kx71_c), (41, 144, 0, kx26_c)])
set_option maxRecDepth 100000 in
theorem kx72_k : fx_chk TX 2 kx72_c 3 kx72_x t_X6_readNot kx72_a kx72_s 22 = true := by decide +kernel
set_option maxRecDepth 100000 in
theorem kx72 {l : Launch} {E : (Nat → Prop) → State → Prop} {ad : List Nat} {D : va_G} {gs : List Nat} {cy : Nat → ClassId} (h : fxX E D cy) : fx_Met l yX6_readNot (.code yX6_readNot cX6_readNot 2 (some .boolean) :: wsL_law) ({ frames := 44, cells := 0, slots := 0, locals := 977 }) E (gs, TX, cy, fun _ => True) ad D classes kx72_c :=
  fx_sound (x := kx72_x) (tb := t_X6_readNot) (an := kx72_a) (sp := kx72_s) (rk := 3) 22 h.1 (fun _ _ _ _ _ _ => trivial) (fun _ _ _ _ _ _ => trivial) (ht_tys cy) (by decide) rfl ⟨fx_an, (fx_ac fl_X6_12 (fx_ac fl_X6_21 (fx_ac fl_X6_116 (fx_an)))), fx_an, fx_an, fx_an, (fx_ac (ev_V (kx16 h) (by decide) rfl ⟨by decide, by decide⟩ iV_X9_advance g_X6_71) (fx_ac (ev_V (kx71 h) (by decide) rfl ⟨by decide, by decide⟩ iV_X6_readOne g_X6_147) (fx_ac (ev_V (kx26 h) (by decide) rfl ⟨by decide, by decide⟩ iV_X0_add g_X6_144) (fx_an))))⟩ d_X6_readNot kx72_k
-- X6_readBoth 1 i ('c', 2)
def kx73_c : fx_C := ([.inr (.inr 2), .inl (2, 2)], [], [(some (.inl (0, 0)), [.inr (.inr 2), .inl (2, 2)], [((0, 2), .inl (1, 5))]), (some (.inl (1, 1)), [.inr (.inr 2), .inl (2, 2)], [((0, 1), .inr (.inr 9)), ((2, 6), .inr (.inr 10)), ((3, 4), .inl (1, 512)), ((3, 6), .inl (-2147483647, 30))])], [(0, 4), (0, 6), (6, 2), (6, 3), (9, 3), (9, 4), (9, 5), (9, 6), (9, 7), (1000, 17), (1000, 18)])
def kx73_a : List fx_N := [(12, [(0, .inr (.inr 2)), (1, .inl (2, 2)), (2, .inl (0, 1600))], [((0, 1), .inr (.inr 9)), ((3, 6), .inr (.inr 10)), ((4, 4), .inl (1, 512)), ((4, 6), .inl (-2147483647, 30))], [(0, 0), (1, 2), (0, 0)], [(0, 0), (1, 1)])]
def kx73_s : List fx_D := []
def kx73_x : fx_X := ([], [(12, 6, 0), (21, 6, 1), (38, 9, 4), (116, 10, 6)], [], [], [], [(2, 147, 6, kx71_c), (36, 71, 9, kx16_c), (41, 147, 6, kx71_c), (60, 144, 0, kx26_c)])
set_option maxRecDepth 100000 in
theorem kx73_k : fx_chk TX 3 kx73_c 3 kx73_x t_X6_readBoth kx73_a kx73_s 26 = true := by decide +kernel
set_option maxRecDepth 100000 in
theorem kx73 {l : Launch} {E : (Nat → Prop) → State → Prop} {ad : List Nat} {D : va_G} {gs : List Nat} {cy : Nat → ClassId} (h : fxX E D cy) : fx_Met l yX6_readBoth (.code yX6_readBoth cX6_readBoth 3 (some .boolean) :: wsL_law) ({ frames := 44, cells := 0, slots := 0, locals := 977 }) E (gs, TX, cy, fun _ => True) ad D classes kx73_c :=
  fx_sound (x := kx73_x) (tb := t_X6_readBoth) (an := kx73_a) (sp := kx73_s) (rk := 3) 26 h.1 (fun _ _ _ _ _ _ => trivial) (fun _ _ _ _ _ _ => trivial) (ht_tys cy) (by decide) rfl ⟨fx_an, (fx_ac fl_X6_12 (fx_ac fl_X6_21 (fx_ac fl_X6_38 (fx_ac fl_X6_116 (fx_an))))), fx_an, fx_an, fx_an, (fx_ac (ev_V (kx71 h) (by decide) rfl ⟨by decide, by decide⟩ iV_X6_readOne g_X6_147) (fx_ac (ev_V (kx16 h) (by decide) rfl ⟨by decide, by decide⟩ iV_X9_advance g_X6_71) (fx_ac (ev_V (kx71 h) (by decide) rfl ⟨by decide, by decide⟩ iV_X6_readOne g_X6_147) (fx_ac (ev_V (kx26 h) (by decide) rfl ⟨by decide, by decide⟩ iV_X0_add g_X6_144) (fx_an)))))⟩ d_X6_readBoth kx73_k
-- X6_readEither 1 i ('c', 2)
def kx74_c : fx_C := ([.inr (.inr 2), .inl (2, 2)], [], [(some (.inl (0, 0)), [.inr (.inr 2), .inl (2, 2)], [((0, 2), .inl (1, 5))]), (some (.inl (1, 1)), [.inr (.inr 2), .inl (2, 2)], [((0, 1), .inr (.inr 9)), ((2, 6), .inr (.inr 10)), ((3, 4), .inl (1, 512)), ((3, 6), .inl (-2147483647, 30))])], [(0, 4), (0, 6), (6, 2), (6, 3), (9, 3), (9, 4), (9, 5), (9, 6), (9, 7), (1000, 17), (1000, 18)])
def kx74_a : List fx_N := [(12, [(0, .inr (.inr 2)), (1, .inl (2, 2)), (2, .inl (0, 1600))], [((0, 1), .inr (.inr 9)), ((3, 6), .inr (.inr 10)), ((4, 4), .inl (1, 512)), ((4, 6), .inl (-2147483647, 30))], [(0, 0), (1, 2), (0, 0)], [(0, 0), (1, 1)])]
def kx74_s : List fx_D := []
def kx74_x : fx_X := ([], [(12, 6, 0), (21, 6, 1), (38, 9, 4), (116, 10, 6)], [], [], [], [(2, 141, 6, kx73_c), (36, 71, 9, kx16_c), (41, 141, 6, kx73_c), (60, 144, 0, kx26_c)])
set_option maxRecDepth 100000 in
theorem kx74_k : fx_chk TX 3 kx74_c 3 kx74_x t_X6_readEither kx74_a kx74_s 26 = true := by decide +kernel
set_option maxRecDepth 100000 in
theorem kx74 {l : Launch} {E : (Nat → Prop) → State → Prop} {ad : List Nat} {D : va_G} {gs : List Nat} {cy : Nat → ClassId} (h : fxX E D cy) : fx_Met l yX6_readEither (.code yX6_readEither cX6_readEither 3 (some .boolean) :: wsL_law) ({ frames := 45, cells := 0, slots := 0, locals := 999 }) E (gs, TX, cy, fun _ => True) ad D classes kx74_c :=
  fx_sound (x := kx74_x) (tb := t_X6_readEither) (an := kx74_a) (sp := kx74_s) (rk := 3) 26 h.1 (fun _ _ _ _ _ _ => trivial) (fun _ _ _ _ _ _ => trivial) (ht_tys cy) (by decide) rfl ⟨fx_an, (fx_ac fl_X6_12 (fx_ac fl_X6_21 (fx_ac fl_X6_38 (fx_ac fl_X6_116 (fx_an))))), fx_an, fx_an, fx_an, (fx_ac (ev_V (kx73 h) (by decide) rfl ⟨by decide, by decide⟩ iV_X6_readBoth g_X6_141) (fx_ac (ev_V (kx16 h) (by decide) rfl ⟨by decide, by decide⟩ iV_X9_advance g_X6_71) (fx_ac (ev_V (kx73 h) (by decide) rfl ⟨by decide, by decide⟩ iV_X6_readBoth g_X6_141) (fx_ac (ev_V (kx26 h) (by decide) rfl ⟨by decide, by decide⟩ iV_X0_add g_X6_144) (fx_an)))))⟩ d_X6_readEither kx74_k
-- X6_readBracket 1 i ('c', 1)
def kx75_c : fx_C := ([.inr (.inr 2), .inl (1, 1)], [], [(some (.inl (1, 1)), [.inr (.inr 2), .inl (1, 1)], [((0, 1), .inr (.inr 9)), ((2, 6), .inr (.inr 10)), ((3, 4), .inl (1, 512)), ((3, 6), .inl (-2147483647, 30))]), (some (.inl (0, 0)), [.inr (.inr 2), .inl (1, 1)], [((0, 2), .inl (1, 5))])], [(0, 4), (0, 6), (6, 2), (6, 3), (9, 3), (9, 4), (9, 5), (9, 6), (9, 7), (1000, 17), (1000, 18)])
def kx75_a : List fx_N := []
def kx75_s : List fx_D := []
def kx75_x : fx_X := ([], [(12, 6, 0), (21, 6, 1), (116, 10, 6), (165, 0, 6)], [(165, 0, 6, 0)], [], [], [(31, 71, 9, kx16_c), (38, 126, 6, kx74_c), (47, 89, 6, kx21_c)])
set_option maxRecDepth 100000 in
theorem kx75_k : fx_chk TX 2 kx75_c 3 kx75_x t_X6_readBracket kx75_a kx75_s 29 = true := by decide +kernel
set_option maxRecDepth 100000 in
theorem kx75 {l : Launch} {E : (Nat → Prop) → State → Prop} {ad : List Nat} {D : va_G} {gs : List Nat} {cy : Nat → ClassId} (h : fxX E D cy) : fx_Met l yX6_readBracket (.code yX6_readBracket cX6_readBracket 2 (some .boolean) :: wsL_law) ({ frames := 46, cells := 0, slots := 0, locals := 1021 }) E (gs, TX, cy, fun _ => True) ad D classes kx75_c :=
  fx_sound (x := kx75_x) (tb := t_X6_readBracket) (an := kx75_a) (sp := kx75_s) (rk := 3) 29 h.1 (fun _ _ _ _ _ _ => trivial) (fun _ _ _ _ _ _ => trivial) (ht_tys cy) (by decide) rfl ⟨fx_an, (fx_ac fl_X6_12 (fx_ac fl_X6_21 (fx_ac fl_X6_116 (fx_ac fl_X6_165 (fx_an))))), (fx_ac pl_X6_165 (fx_an)), fx_an, fx_an, (fx_ac (ev_V (kx16 h) (by decide) rfl ⟨by decide, by decide⟩ iV_X9_advance g_X6_71) (fx_ac (ev_V (kx74 h) (by decide) rfl ⟨by decide, by decide⟩ iV_X6_readEither g_X6_126) (fx_ac (ev_V (kx21 h) (by decide) rfl ⟨by decide, by decide⟩ iV_X6_pass g_X6_89) (fx_an))))⟩ d_X6_readBracket kx75_k
-- X6_readUnit 1 i ('c', 1)
def kx76_c : fx_C := ([.inr (.inr 2), .inl (1, 1)], [], [(some (.inl (0, 0)), [.inr (.inr 2), .inl (1, 1)], [((0, 2), .inl (1, 5))]), (some (.inl (1, 1)), [.inr (.inr 2), .inl (1, 1)], [((0, 1), .inr (.inr 9)), ((2, 6), .inr (.inr 10)), ((3, 4), .inl (1, 512)), ((3, 6), .inl (-2147483647, 30))])], [(0, 4), (0, 6), (6, 2), (6, 3), (9, 3), (9, 4), (9, 5), (9, 6), (9, 7), (1000, 17), (1000, 18)])
def kx76_a : List fx_N := []
def kx76_s : List fx_D := []
def kx76_x : fx_X := ([], [(12, 6, 0), (21, 6, 1), (38, 9, 4), (96, 9, 6), (116, 10, 6), (165, 0, 6)], [(165, 0, 6, 0)], [], [], [(24, 65, 6, kx19_c), (36, 168, 6, kx75_c), (47, 171, 1000, kx25_c), (54, 65, 6, kx19_c), (89, 144, 0, kx26_c), (96, 71, 9, kx16_c)])
set_option maxRecDepth 100000 in
theorem kx76_k : fx_chk TX 3 kx76_c 3 kx76_x t_X6_readUnit kx76_a kx76_s 42 = true := by decide +kernel
set_option maxRecDepth 100000 in
theorem kx76 {l : Launch} {E : (Nat → Prop) → State → Prop} {ad : List Nat} {D : va_G} {gs : List Nat} {cy : Nat → ClassId} (h : fxX E D cy) : fx_Met l yX6_readUnit (.code yX6_readUnit cX6_readUnit 3 (some .boolean) :: wsL_law) ({ frames := 47, cells := 0, slots := 0, locals := 1042 }) E (gs, TX, cy, fun _ => True) ad D classes kx76_c :=
  fx_sound (x := kx76_x) (tb := t_X6_readUnit) (an := kx76_a) (sp := kx76_s) (rk := 3) 42 h.1 (fun _ _ _ _ _ _ => trivial) (fun _ _ _ _ _ _ => trivial) (ht_tys cy) (by decide) rfl ⟨fx_an, (fx_ac fl_X6_12 (fx_ac fl_X6_21 (fx_ac fl_X6_38 (fx_ac fl_X6_96 (fx_ac fl_X6_116 (fx_ac fl_X6_165 (fx_an))))))), (fx_ac pl_X6_165 (fx_an)), fx_an, fx_an, (fx_ac (ev_V (kx19 h) (by decide) rfl ⟨by decide, by decide⟩ iV_X6_refuse g_X6_65) (fx_ac (ev_V (kx75 h) (by decide) rfl ⟨by decide, by decide⟩ iV_X6_readBracket g_X6_168) (fx_ac (ev_S (kx25 h) ⟨by decide, by decide⟩ iS_X9_isKnownKey g_X6_171) (fx_ac (ev_V (kx19 h) (by decide) rfl ⟨by decide, by decide⟩ iV_X6_refuse g_X6_65) (fx_ac (ev_V (kx26 h) (by decide) rfl ⟨by decide, by decide⟩ iV_X0_add g_X6_144) (fx_ac (ev_V (kx16 h) (by decide) rfl ⟨by decide, by decide⟩ iV_X9_advance g_X6_71) (fx_an)))))))⟩ d_X6_readUnit kx76_k
-- X6_readTerm 1 i ('c', 1)
def kx77_c : fx_C := ([.inr (.inr 2), .inl (1, 1)], [], [(some (.inl (0, 0)), [.inr (.inr 2), .inl (1, 1)], [((0, 2), .inl (1, 5))]), (some (.inl (1, 1)), [.inr (.inr 2), .inl (1, 1)], [((0, 1), .inr (.inr 9)), ((2, 6), .inr (.inr 10)), ((3, 4), .inl (1, 512)), ((3, 6), .inl (-2147483647, 30))])], [(0, 4), (0, 6), (6, 2), (6, 3), (9, 3), (9, 4), (9, 5), (9, 6), (9, 7), (1000, 17), (1000, 18)])
def kx77_a : List fx_N := [(12, [(0, .inr (.inr 2)), (1, .inl (1, 1)), (2, .inl (0, 1600))], [((0, 1), .inr (.inr 9)), ((3, 6), .inr (.inr 10)), ((4, 4), .inl (1, 512)), ((4, 6), .inl (-2147483647, 30))], [(0, 0), (1, 2), (0, 0)], [(0, 0), (1, 1)])]
def kx77_s : List fx_D := []
def kx77_x : fx_X := ([], [(12, 6, 0), (21, 6, 1), (38, 9, 4), (116, 10, 6)], [], [], [], [(2, 159, 6, kx76_c), (26, 162, 1000, kx28_c), (44, 71, 9, kx16_c), (49, 159, 6, kx76_c), (66, 144, 0, kx26_c)])
set_option maxRecDepth 100000 in
theorem kx77_k : fx_chk TX 4 kx77_c 3 kx77_x t_X6_readTerm kx77_a kx77_s 30 = true := by decide +kernel
set_option maxRecDepth 100000 in
theorem kx77 {l : Launch} {E : (Nat → Prop) → State → Prop} {ad : List Nat} {D : va_G} {gs : List Nat} {cy : Nat → ClassId} (h : fxX E D cy) : fx_Met l yX6_readTerm (.code yX6_readTerm cX6_readTerm 4 (some .boolean) :: wsL_law) ({ frames := 48, cells := 0, slots := 0, locals := 1064 }) E (gs, TX, cy, fun _ => True) ad D classes kx77_c :=
  fx_sound (x := kx77_x) (tb := t_X6_readTerm) (an := kx77_a) (sp := kx77_s) (rk := 3) 30 h.1 (fun _ _ _ _ _ _ => trivial) (fun _ _ _ _ _ _ => trivial) (ht_tys cy) (by decide) rfl ⟨fx_an, (fx_ac fl_X6_12 (fx_ac fl_X6_21 (fx_ac fl_X6_38 (fx_ac fl_X6_116 (fx_an))))), fx_an, fx_an, fx_an, (fx_ac (ev_V (kx76 h) (by decide) rfl ⟨by decide, by decide⟩ iV_X6_readUnit g_X6_159) (fx_ac (ev_S (kx28 h) ⟨by decide, by decide⟩ iS_X6_isTermSign g_X6_162) (fx_ac (ev_V (kx16 h) (by decide) rfl ⟨by decide, by decide⟩ iV_X9_advance g_X6_71) (fx_ac (ev_V (kx76 h) (by decide) rfl ⟨by decide, by decide⟩ iV_X6_readUnit g_X6_159) (fx_ac (ev_V (kx26 h) (by decide) rfl ⟨by decide, by decide⟩ iV_X0_add g_X6_144) (fx_an))))))⟩ d_X6_readTerm kx77_k
-- X6_readSum 1 i ('c', 1)
def kx78_c : fx_C := ([.inr (.inr 2), .inl (1, 1)], [], [(some (.inl (0, 0)), [.inr (.inr 2), .inl (1, 1)], [((0, 2), .inl (1, 5))]), (some (.inl (1, 1)), [.inr (.inr 2), .inl (1, 1)], [((0, 1), .inr (.inr 9)), ((2, 6), .inr (.inr 10)), ((3, 4), .inl (1, 512)), ((3, 6), .inl (-2147483647, 30))])], [(0, 4), (0, 6), (6, 2), (6, 3), (9, 3), (9, 4), (9, 5), (9, 6), (9, 7), (1000, 17), (1000, 18)])
def kx78_a : List fx_N := [(12, [(0, .inr (.inr 2)), (1, .inl (1, 1)), (2, .inl (0, 1600))], [((0, 1), .inr (.inr 9)), ((3, 6), .inr (.inr 10)), ((4, 4), .inl (1, 512)), ((4, 6), .inl (-2147483647, 30))], [(0, 0), (1, 2), (0, 0)], [(0, 0), (1, 1)])]
def kx78_s : List fx_D := []
def kx78_x : fx_X := ([], [(12, 6, 0), (21, 6, 1), (38, 9, 4), (116, 10, 6)], [], [], [], [(2, 156, 6, kx77_c), (55, 71, 9, kx16_c), (60, 156, 6, kx77_c), (77, 144, 0, kx26_c)])
set_option maxRecDepth 100000 in
theorem kx78_k : fx_chk TX 4 kx78_c 3 kx78_x t_X6_readSum kx78_a kx78_s 35 = true := by decide +kernel
set_option maxRecDepth 100000 in
theorem kx78 {l : Launch} {E : (Nat → Prop) → State → Prop} {ad : List Nat} {D : va_G} {gs : List Nat} {cy : Nat → ClassId} (h : fxX E D cy) : fx_Met l yX6_readSum (.code yX6_readSum cX6_readSum 4 (some .boolean) :: wsL_law) ({ frames := 49, cells := 0, slots := 0, locals := 1087 }) E (gs, TX, cy, fun _ => True) ad D classes kx78_c :=
  fx_sound (x := kx78_x) (tb := t_X6_readSum) (an := kx78_a) (sp := kx78_s) (rk := 3) 35 h.1 (fun _ _ _ _ _ _ => trivial) (fun _ _ _ _ _ _ => trivial) (ht_tys cy) (by decide) rfl ⟨fx_an, (fx_ac fl_X6_12 (fx_ac fl_X6_21 (fx_ac fl_X6_38 (fx_ac fl_X6_116 (fx_an))))), fx_an, fx_an, fx_an, (fx_ac (ev_V (kx77 h) (by decide) rfl ⟨by decide, by decide⟩ iV_X6_readTerm g_X6_156) (fx_ac (ev_V (kx16 h) (by decide) rfl ⟨by decide, by decide⟩ iV_X9_advance g_X6_71) (fx_ac (ev_V (kx77 h) (by decide) rfl ⟨by decide, by decide⟩ iV_X6_readTerm g_X6_156) (fx_ac (ev_V (kx26 h) (by decide) rfl ⟨by decide, by decide⟩ iV_X0_add g_X6_144) (fx_an)))))⟩ d_X6_readSum kx78_k
-- X6_readOne 1 i ('c', 1)
def kx79_c : fx_C := ([.inr (.inr 2), .inl (1, 1)], [], [(some (.inl (0, 0)), [.inr (.inr 2), .inl (1, 1)], [((0, 2), .inl (1, 5))]), (some (.inl (1, 1)), [.inr (.inr 2), .inl (1, 1)], [((0, 1), .inr (.inr 9)), ((2, 6), .inr (.inr 10)), ((3, 4), .inl (1, 512)), ((3, 6), .inl (-2147483647, 30))])], [(0, 4), (0, 6), (6, 2), (6, 3), (9, 3), (9, 4), (9, 5), (9, 6), (9, 7), (1000, 17), (1000, 18)])
def kx79_a : List fx_N := []
def kx79_s : List fx_D := []
def kx79_x : fx_X := ([], [(12, 6, 0), (21, 6, 1), (38, 9, 4), (116, 10, 6)], [], [], [], [(15, 150, 6, kx72_c), (21, 153, 6, kx78_c), (61, 71, 9, kx16_c), (66, 153, 6, kx78_c), (83, 144, 0, kx26_c)])
set_option maxRecDepth 100000 in
theorem kx79_k : fx_chk TX 3 kx79_c 3 kx79_x t_X6_readOne kx79_a kx79_s 39 = true := by decide +kernel
set_option maxRecDepth 100000 in
theorem kx79 {l : Launch} {E : (Nat → Prop) → State → Prop} {ad : List Nat} {D : va_G} {gs : List Nat} {cy : Nat → ClassId} (h : fxX E D cy) : fx_Met l yX6_readOne (.code yX6_readOne cX6_readOne 3 (some .boolean) :: wsL_law) ({ frames := 50, cells := 0, slots := 0, locals := 1110 }) E (gs, TX, cy, fun _ => True) ad D classes kx79_c :=
  fx_sound (x := kx79_x) (tb := t_X6_readOne) (an := kx79_a) (sp := kx79_s) (rk := 3) 39 h.1 (fun _ _ _ _ _ _ => trivial) (fun _ _ _ _ _ _ => trivial) (ht_tys cy) (by decide) rfl ⟨fx_an, (fx_ac fl_X6_12 (fx_ac fl_X6_21 (fx_ac fl_X6_38 (fx_ac fl_X6_116 (fx_an))))), fx_an, fx_an, fx_an, (fx_ac (ev_V (kx72 h) (by decide) rfl ⟨by decide, by decide⟩ iV_X6_readNot g_X6_150) (fx_ac (ev_V (kx78 h) (by decide) rfl ⟨by decide, by decide⟩ iV_X6_readSum g_X6_153) (fx_ac (ev_V (kx16 h) (by decide) rfl ⟨by decide, by decide⟩ iV_X9_advance g_X6_71) (fx_ac (ev_V (kx78 h) (by decide) rfl ⟨by decide, by decide⟩ iV_X6_readSum g_X6_153) (fx_ac (ev_V (kx26 h) (by decide) rfl ⟨by decide, by decide⟩ iV_X0_add g_X6_144) (fx_an))))))⟩ d_X6_readOne kx79_k
-- X6_readNot 1 i ('c', 0)
def kx80_c : fx_C := ([.inr (.inr 2), .inl (0, 0)], [], [(some (.inl (1, 1)), [.inr (.inr 2), .inl (0, 0)], [((0, 1), .inr (.inr 9)), ((2, 6), .inr (.inr 10)), ((3, 4), .inl (1, 512)), ((3, 6), .inl (-2147483647, 30))]), (some (.inl (0, 0)), [.inr (.inr 2), .inl (0, 0)], [((0, 2), .inl (1, 5))])], [(0, 4), (0, 6), (6, 2), (6, 3), (9, 3), (9, 4), (9, 5), (9, 6), (9, 7), (1000, 17), (1000, 18)])
def kx80_a : List fx_N := []
def kx80_s : List fx_D := []
def kx80_x : fx_X := ([], [(12, 6, 0), (21, 6, 1), (116, 10, 6)], [], [], [], [(15, 71, 9, kx16_c), (22, 147, 6, kx79_c), (41, 144, 0, kx26_c)])
set_option maxRecDepth 100000 in
theorem kx80_k : fx_chk TX 2 kx80_c 3 kx80_x t_X6_readNot kx80_a kx80_s 22 = true := by decide +kernel
set_option maxRecDepth 100000 in
theorem kx80 {l : Launch} {E : (Nat → Prop) → State → Prop} {ad : List Nat} {D : va_G} {gs : List Nat} {cy : Nat → ClassId} (h : fxX E D cy) : fx_Met l yX6_readNot (.code yX6_readNot cX6_readNot 2 (some .boolean) :: wsL_law) ({ frames := 51, cells := 0, slots := 0, locals := 1132 }) E (gs, TX, cy, fun _ => True) ad D classes kx80_c :=
  fx_sound (x := kx80_x) (tb := t_X6_readNot) (an := kx80_a) (sp := kx80_s) (rk := 3) 22 h.1 (fun _ _ _ _ _ _ => trivial) (fun _ _ _ _ _ _ => trivial) (ht_tys cy) (by decide) rfl ⟨fx_an, (fx_ac fl_X6_12 (fx_ac fl_X6_21 (fx_ac fl_X6_116 (fx_an)))), fx_an, fx_an, fx_an, (fx_ac (ev_V (kx16 h) (by decide) rfl ⟨by decide, by decide⟩ iV_X9_advance g_X6_71) (fx_ac (ev_V (kx79 h) (by decide) rfl ⟨by decide, by decide⟩ iV_X6_readOne g_X6_147) (fx_ac (ev_V (kx26 h) (by decide) rfl ⟨by decide, by decide⟩ iV_X0_add g_X6_144) (fx_an))))⟩ d_X6_readNot kx80_k
-- X6_readBoth 1 i ('c', 1)
def kx81_c : fx_C := ([.inr (.inr 2), .inl (1, 1)], [], [(some (.inl (0, 0)), [.inr (.inr 2), .inl (1, 1)], [((0, 2), .inl (1, 5))]), (some (.inl (1, 1)), [.inr (.inr 2), .inl (1, 1)], [((0, 1), .inr (.inr 9)), ((2, 6), .inr (.inr 10)), ((3, 4), .inl (1, 512)), ((3, 6), .inl (-2147483647, 30))])], [(0, 4), (0, 6), (6, 2), (6, 3), (9, 3), (9, 4), (9, 5), (9, 6), (9, 7), (1000, 17), (1000, 18)])
def kx81_a : List fx_N := [(12, [(0, .inr (.inr 2)), (1, .inl (1, 1)), (2, .inl (0, 1600))], [((0, 1), .inr (.inr 9)), ((3, 6), .inr (.inr 10)), ((4, 4), .inl (1, 512)), ((4, 6), .inl (-2147483647, 30))], [(0, 0), (1, 2), (0, 0)], [(0, 0), (1, 1)])]
def kx81_s : List fx_D := []
def kx81_x : fx_X := ([], [(12, 6, 0), (21, 6, 1), (38, 9, 4), (116, 10, 6)], [], [], [], [(2, 147, 6, kx79_c), (36, 71, 9, kx16_c), (41, 147, 6, kx79_c), (60, 144, 0, kx26_c)])
set_option maxRecDepth 100000 in
theorem kx81_k : fx_chk TX 3 kx81_c 3 kx81_x t_X6_readBoth kx81_a kx81_s 26 = true := by decide +kernel
set_option maxRecDepth 100000 in
theorem kx81 {l : Launch} {E : (Nat → Prop) → State → Prop} {ad : List Nat} {D : va_G} {gs : List Nat} {cy : Nat → ClassId} (h : fxX E D cy) : fx_Met l yX6_readBoth (.code yX6_readBoth cX6_readBoth 3 (some .boolean) :: wsL_law) ({ frames := 51, cells := 0, slots := 0, locals := 1132 }) E (gs, TX, cy, fun _ => True) ad D classes kx81_c :=
  fx_sound (x := kx81_x) (tb := t_X6_readBoth) (an := kx81_a) (sp := kx81_s) (rk := 3) 26 h.1 (fun _ _ _ _ _ _ => trivial) (fun _ _ _ _ _ _ => trivial) (ht_tys cy) (by decide) rfl ⟨fx_an, (fx_ac fl_X6_12 (fx_ac fl_X6_21 (fx_ac fl_X6_38 (fx_ac fl_X6_116 (fx_an))))), fx_an, fx_an, fx_an, (fx_ac (ev_V (kx79 h) (by decide) rfl ⟨by decide, by decide⟩ iV_X6_readOne g_X6_147) (fx_ac (ev_V (kx16 h) (by decide) rfl ⟨by decide, by decide⟩ iV_X9_advance g_X6_71) (fx_ac (ev_V (kx79 h) (by decide) rfl ⟨by decide, by decide⟩ iV_X6_readOne g_X6_147) (fx_ac (ev_V (kx26 h) (by decide) rfl ⟨by decide, by decide⟩ iV_X0_add g_X6_144) (fx_an)))))⟩ d_X6_readBoth kx81_k
-- X6_readEither 1 i ('c', 1)
def kx82_c : fx_C := ([.inr (.inr 2), .inl (1, 1)], [], [(some (.inl (0, 0)), [.inr (.inr 2), .inl (1, 1)], [((0, 2), .inl (1, 5))]), (some (.inl (1, 1)), [.inr (.inr 2), .inl (1, 1)], [((0, 1), .inr (.inr 9)), ((2, 6), .inr (.inr 10)), ((3, 4), .inl (1, 512)), ((3, 6), .inl (-2147483647, 30))])], [(0, 4), (0, 6), (6, 2), (6, 3), (9, 3), (9, 4), (9, 5), (9, 6), (9, 7), (1000, 17), (1000, 18)])
def kx82_a : List fx_N := [(12, [(0, .inr (.inr 2)), (1, .inl (1, 1)), (2, .inl (0, 1600))], [((0, 1), .inr (.inr 9)), ((3, 6), .inr (.inr 10)), ((4, 4), .inl (1, 512)), ((4, 6), .inl (-2147483647, 30))], [(0, 0), (1, 2), (0, 0)], [(0, 0), (1, 1)])]
def kx82_s : List fx_D := []
def kx82_x : fx_X := ([], [(12, 6, 0), (21, 6, 1), (38, 9, 4), (116, 10, 6)], [], [], [], [(2, 141, 6, kx81_c), (36, 71, 9, kx16_c), (41, 141, 6, kx81_c), (60, 144, 0, kx26_c)])
set_option maxRecDepth 100000 in
theorem kx82_k : fx_chk TX 3 kx82_c 3 kx82_x t_X6_readEither kx82_a kx82_s 26 = true := by decide +kernel
set_option maxRecDepth 100000 in
theorem kx82 {l : Launch} {E : (Nat → Prop) → State → Prop} {ad : List Nat} {D : va_G} {gs : List Nat} {cy : Nat → ClassId} (h : fxX E D cy) : fx_Met l yX6_readEither (.code yX6_readEither cX6_readEither 3 (some .boolean) :: wsL_law) ({ frames := 52, cells := 0, slots := 0, locals := 1154 }) E (gs, TX, cy, fun _ => True) ad D classes kx82_c :=
  fx_sound (x := kx82_x) (tb := t_X6_readEither) (an := kx82_a) (sp := kx82_s) (rk := 3) 26 h.1 (fun _ _ _ _ _ _ => trivial) (fun _ _ _ _ _ _ => trivial) (ht_tys cy) (by decide) rfl ⟨fx_an, (fx_ac fl_X6_12 (fx_ac fl_X6_21 (fx_ac fl_X6_38 (fx_ac fl_X6_116 (fx_an))))), fx_an, fx_an, fx_an, (fx_ac (ev_V (kx81 h) (by decide) rfl ⟨by decide, by decide⟩ iV_X6_readBoth g_X6_141) (fx_ac (ev_V (kx16 h) (by decide) rfl ⟨by decide, by decide⟩ iV_X9_advance g_X6_71) (fx_ac (ev_V (kx81 h) (by decide) rfl ⟨by decide, by decide⟩ iV_X6_readBoth g_X6_141) (fx_ac (ev_V (kx26 h) (by decide) rfl ⟨by decide, by decide⟩ iV_X0_add g_X6_144) (fx_an)))))⟩ d_X6_readEither kx82_k
-- X6_readBracket 1 i ('c', 0)
def kx83_c : fx_C := ([.inr (.inr 2), .inl (0, 0)], [], [(some (.inl (1, 1)), [.inr (.inr 2), .inl (0, 0)], [((0, 1), .inr (.inr 9)), ((2, 6), .inr (.inr 10)), ((3, 4), .inl (1, 512)), ((3, 6), .inl (-2147483647, 30))]), (some (.inl (0, 0)), [.inr (.inr 2), .inl (0, 0)], [((0, 2), .inl (1, 5))])], [(0, 4), (0, 6), (6, 2), (6, 3), (9, 3), (9, 4), (9, 5), (9, 6), (9, 7), (1000, 17), (1000, 18)])
def kx83_a : List fx_N := []
def kx83_s : List fx_D := []
def kx83_x : fx_X := ([], [(12, 6, 0), (21, 6, 1), (116, 10, 6), (165, 0, 6)], [(165, 0, 6, 0)], [], [], [(31, 71, 9, kx16_c), (38, 126, 6, kx82_c), (47, 89, 6, kx21_c)])
set_option maxRecDepth 100000 in
theorem kx83_k : fx_chk TX 2 kx83_c 3 kx83_x t_X6_readBracket kx83_a kx83_s 29 = true := by decide +kernel
set_option maxRecDepth 100000 in
theorem kx83 {l : Launch} {E : (Nat → Prop) → State → Prop} {ad : List Nat} {D : va_G} {gs : List Nat} {cy : Nat → ClassId} (h : fxX E D cy) : fx_Met l yX6_readBracket (.code yX6_readBracket cX6_readBracket 2 (some .boolean) :: wsL_law) ({ frames := 53, cells := 0, slots := 0, locals := 1176 }) E (gs, TX, cy, fun _ => True) ad D classes kx83_c :=
  fx_sound (x := kx83_x) (tb := t_X6_readBracket) (an := kx83_a) (sp := kx83_s) (rk := 3) 29 h.1 (fun _ _ _ _ _ _ => trivial) (fun _ _ _ _ _ _ => trivial) (ht_tys cy) (by decide) rfl ⟨fx_an, (fx_ac fl_X6_12 (fx_ac fl_X6_21 (fx_ac fl_X6_116 (fx_ac fl_X6_165 (fx_an))))), (fx_ac pl_X6_165 (fx_an)), fx_an, fx_an, (fx_ac (ev_V (kx16 h) (by decide) rfl ⟨by decide, by decide⟩ iV_X9_advance g_X6_71) (fx_ac (ev_V (kx82 h) (by decide) rfl ⟨by decide, by decide⟩ iV_X6_readEither g_X6_126) (fx_ac (ev_V (kx21 h) (by decide) rfl ⟨by decide, by decide⟩ iV_X6_pass g_X6_89) (fx_an))))⟩ d_X6_readBracket kx83_k
-- X6_readUnit 1 i ('c', 0)
def kx84_c : fx_C := ([.inr (.inr 2), .inl (0, 0)], [], [(some (.inl (0, 0)), [.inr (.inr 2), .inl (0, 0)], [((0, 2), .inl (1, 5))]), (some (.inl (1, 1)), [.inr (.inr 2), .inl (0, 0)], [((0, 1), .inr (.inr 9)), ((2, 6), .inr (.inr 10)), ((3, 4), .inl (1, 512)), ((3, 6), .inl (-2147483647, 30))])], [(0, 4), (0, 6), (6, 2), (6, 3), (9, 3), (9, 4), (9, 5), (9, 6), (9, 7), (1000, 17), (1000, 18)])
def kx84_a : List fx_N := []
def kx84_s : List fx_D := []
def kx84_x : fx_X := ([], [(12, 6, 0), (21, 6, 1), (38, 9, 4), (96, 9, 6), (116, 10, 6), (165, 0, 6)], [(165, 0, 6, 0)], [], [], [(24, 65, 6, kx19_c), (36, 168, 6, kx83_c), (47, 171, 1000, kx25_c), (54, 65, 6, kx19_c), (89, 144, 0, kx26_c), (96, 71, 9, kx16_c)])
set_option maxRecDepth 100000 in
theorem kx84_k : fx_chk TX 3 kx84_c 3 kx84_x t_X6_readUnit kx84_a kx84_s 42 = true := by decide +kernel
set_option maxRecDepth 100000 in
theorem kx84 {l : Launch} {E : (Nat → Prop) → State → Prop} {ad : List Nat} {D : va_G} {gs : List Nat} {cy : Nat → ClassId} (h : fxX E D cy) : fx_Met l yX6_readUnit (.code yX6_readUnit cX6_readUnit 3 (some .boolean) :: wsL_law) ({ frames := 54, cells := 0, slots := 0, locals := 1197 }) E (gs, TX, cy, fun _ => True) ad D classes kx84_c :=
  fx_sound (x := kx84_x) (tb := t_X6_readUnit) (an := kx84_a) (sp := kx84_s) (rk := 3) 42 h.1 (fun _ _ _ _ _ _ => trivial) (fun _ _ _ _ _ _ => trivial) (ht_tys cy) (by decide) rfl ⟨fx_an, (fx_ac fl_X6_12 (fx_ac fl_X6_21 (fx_ac fl_X6_38 (fx_ac fl_X6_96 (fx_ac fl_X6_116 (fx_ac fl_X6_165 (fx_an))))))), (fx_ac pl_X6_165 (fx_an)), fx_an, fx_an, (fx_ac (ev_V (kx19 h) (by decide) rfl ⟨by decide, by decide⟩ iV_X6_refuse g_X6_65) (fx_ac (ev_V (kx83 h) (by decide) rfl ⟨by decide, by decide⟩ iV_X6_readBracket g_X6_168) (fx_ac (ev_S (kx25 h) ⟨by decide, by decide⟩ iS_X9_isKnownKey g_X6_171) (fx_ac (ev_V (kx19 h) (by decide) rfl ⟨by decide, by decide⟩ iV_X6_refuse g_X6_65) (fx_ac (ev_V (kx26 h) (by decide) rfl ⟨by decide, by decide⟩ iV_X0_add g_X6_144) (fx_ac (ev_V (kx16 h) (by decide) rfl ⟨by decide, by decide⟩ iV_X9_advance g_X6_71) (fx_an)))))))⟩ d_X6_readUnit kx84_k
-- X6_readTerm 1 i ('c', 0)
def kx85_c : fx_C := ([.inr (.inr 2), .inl (0, 0)], [], [(some (.inl (0, 0)), [.inr (.inr 2), .inl (0, 0)], [((0, 2), .inl (1, 5))]), (some (.inl (1, 1)), [.inr (.inr 2), .inl (0, 0)], [((0, 1), .inr (.inr 9)), ((2, 6), .inr (.inr 10)), ((3, 4), .inl (1, 512)), ((3, 6), .inl (-2147483647, 30))])], [(0, 4), (0, 6), (6, 2), (6, 3), (9, 3), (9, 4), (9, 5), (9, 6), (9, 7), (1000, 17), (1000, 18)])
def kx85_a : List fx_N := [(12, [(0, .inr (.inr 2)), (1, .inl (0, 0)), (2, .inl (0, 1600))], [((0, 1), .inr (.inr 9)), ((3, 6), .inr (.inr 10)), ((4, 4), .inl (1, 512)), ((4, 6), .inl (-2147483647, 30))], [(0, 0), (1, 2), (0, 0)], [(0, 0), (1, 1)])]
def kx85_s : List fx_D := []
def kx85_x : fx_X := ([], [(12, 6, 0), (21, 6, 1), (38, 9, 4), (116, 10, 6)], [], [], [], [(2, 159, 6, kx84_c), (26, 162, 1000, kx28_c), (44, 71, 9, kx16_c), (49, 159, 6, kx84_c), (66, 144, 0, kx26_c)])
set_option maxRecDepth 100000 in
theorem kx85_k : fx_chk TX 4 kx85_c 3 kx85_x t_X6_readTerm kx85_a kx85_s 30 = true := by decide +kernel
set_option maxRecDepth 100000 in
theorem kx85 {l : Launch} {E : (Nat → Prop) → State → Prop} {ad : List Nat} {D : va_G} {gs : List Nat} {cy : Nat → ClassId} (h : fxX E D cy) : fx_Met l yX6_readTerm (.code yX6_readTerm cX6_readTerm 4 (some .boolean) :: wsL_law) ({ frames := 55, cells := 0, slots := 0, locals := 1219 }) E (gs, TX, cy, fun _ => True) ad D classes kx85_c :=
  fx_sound (x := kx85_x) (tb := t_X6_readTerm) (an := kx85_a) (sp := kx85_s) (rk := 3) 30 h.1 (fun _ _ _ _ _ _ => trivial) (fun _ _ _ _ _ _ => trivial) (ht_tys cy) (by decide) rfl ⟨fx_an, (fx_ac fl_X6_12 (fx_ac fl_X6_21 (fx_ac fl_X6_38 (fx_ac fl_X6_116 (fx_an))))), fx_an, fx_an, fx_an, (fx_ac (ev_V (kx84 h) (by decide) rfl ⟨by decide, by decide⟩ iV_X6_readUnit g_X6_159) (fx_ac (ev_S (kx28 h) ⟨by decide, by decide⟩ iS_X6_isTermSign g_X6_162) (fx_ac (ev_V (kx16 h) (by decide) rfl ⟨by decide, by decide⟩ iV_X9_advance g_X6_71) (fx_ac (ev_V (kx84 h) (by decide) rfl ⟨by decide, by decide⟩ iV_X6_readUnit g_X6_159) (fx_ac (ev_V (kx26 h) (by decide) rfl ⟨by decide, by decide⟩ iV_X0_add g_X6_144) (fx_an))))))⟩ d_X6_readTerm kx85_k
-- X6_readSum 1 i ('c', 0)
def kx86_c : fx_C := ([.inr (.inr 2), .inl (0, 0)], [], [(some (.inl (0, 0)), [.inr (.inr 2), .inl (0, 0)], [((0, 2), .inl (1, 5))]), (some (.inl (1, 1)), [.inr (.inr 2), .inl (0, 0)], [((0, 1), .inr (.inr 9)), ((2, 6), .inr (.inr 10)), ((3, 4), .inl (1, 512)), ((3, 6), .inl (-2147483647, 30))])], [(0, 4), (0, 6), (6, 2), (6, 3), (9, 3), (9, 4), (9, 5), (9, 6), (9, 7), (1000, 17), (1000, 18)])
def kx86_a : List fx_N := [(12, [(0, .inr (.inr 2)), (1, .inl (0, 0)), (2, .inl (0, 1600))], [((0, 1), .inr (.inr 9)), ((3, 6), .inr (.inr 10)), ((4, 4), .inl (1, 512)), ((4, 6), .inl (-2147483647, 30))], [(0, 0), (1, 2), (0, 0)], [(0, 0), (1, 1)])]
def kx86_s : List fx_D := []
def kx86_x : fx_X := ([], [(12, 6, 0), (21, 6, 1), (38, 9, 4), (116, 10, 6)], [], [], [], [(2, 156, 6, kx85_c), (55, 71, 9, kx16_c), (60, 156, 6, kx85_c), (77, 144, 0, kx26_c)])
set_option maxRecDepth 100000 in
theorem kx86_k : fx_chk TX 4 kx86_c 3 kx86_x t_X6_readSum kx86_a kx86_s 35 = true := by decide +kernel
set_option maxRecDepth 100000 in
theorem kx86 {l : Launch} {E : (Nat → Prop) → State → Prop} {ad : List Nat} {D : va_G} {gs : List Nat} {cy : Nat → ClassId} (h : fxX E D cy) : fx_Met l yX6_readSum (.code yX6_readSum cX6_readSum 4 (some .boolean) :: wsL_law) ({ frames := 56, cells := 0, slots := 0, locals := 1242 }) E (gs, TX, cy, fun _ => True) ad D classes kx86_c :=
  fx_sound (x := kx86_x) (tb := t_X6_readSum) (an := kx86_a) (sp := kx86_s) (rk := 3) 35 h.1 (fun _ _ _ _ _ _ => trivial) (fun _ _ _ _ _ _ => trivial) (ht_tys cy) (by decide) rfl ⟨fx_an, (fx_ac fl_X6_12 (fx_ac fl_X6_21 (fx_ac fl_X6_38 (fx_ac fl_X6_116 (fx_an))))), fx_an, fx_an, fx_an, (fx_ac (ev_V (kx85 h) (by decide) rfl ⟨by decide, by decide⟩ iV_X6_readTerm g_X6_156) (fx_ac (ev_V (kx16 h) (by decide) rfl ⟨by decide, by decide⟩ iV_X9_advance g_X6_71) (fx_ac (ev_V (kx85 h) (by decide) rfl ⟨by decide, by decide⟩ iV_X6_readTerm g_X6_156) (fx_ac (ev_V (kx26 h) (by decide) rfl ⟨by decide, by decide⟩ iV_X0_add g_X6_144) (fx_an)))))⟩ d_X6_readSum kx86_k
-- X6_readOne 1 i ('c', 0)
def kx87_c : fx_C := ([.inr (.inr 2), .inl (0, 0)], [], [(some (.inl (0, 0)), [.inr (.inr 2), .inl (0, 0)], [((0, 2), .inl (1, 5))]), (some (.inl (1, 1)), [.inr (.inr 2), .inl (0, 0)], [((0, 1), .inr (.inr 9)), ((2, 6), .inr (.inr 10)), ((3, 4), .inl (1, 512)), ((3, 6), .inl (-2147483647, 30))])], [(0, 4), (0, 6), (6, 2), (6, 3), (9, 3), (9, 4), (9, 5), (9, 6), (9, 7), (1000, 17), (1000, 18)])
def kx87_a : List fx_N := []
def kx87_s : List fx_D := []
def kx87_x : fx_X := ([], [(12, 6, 0), (21, 6, 1), (38, 9, 4), (116, 10, 6)], [], [], [], [(15, 150, 6, kx80_c), (21, 153, 6, kx86_c), (61, 71, 9, kx16_c), (66, 153, 6, kx86_c), (83, 144, 0, kx26_c)])
set_option maxRecDepth 100000 in
theorem kx87_k : fx_chk TX 3 kx87_c 3 kx87_x t_X6_readOne kx87_a kx87_s 39 = true := by decide +kernel
set_option maxRecDepth 100000 in
theorem kx87 {l : Launch} {E : (Nat → Prop) → State → Prop} {ad : List Nat} {D : va_G} {gs : List Nat} {cy : Nat → ClassId} (h : fxX E D cy) : fx_Met l yX6_readOne (.code yX6_readOne cX6_readOne 3 (some .boolean) :: wsL_law) ({ frames := 57, cells := 0, slots := 0, locals := 1265 }) E (gs, TX, cy, fun _ => True) ad D classes kx87_c :=
  fx_sound (x := kx87_x) (tb := t_X6_readOne) (an := kx87_a) (sp := kx87_s) (rk := 3) 39 h.1 (fun _ _ _ _ _ _ => trivial) (fun _ _ _ _ _ _ => trivial) (ht_tys cy) (by decide) rfl ⟨fx_an, (fx_ac fl_X6_12 (fx_ac fl_X6_21 (fx_ac fl_X6_38 (fx_ac fl_X6_116 (fx_an))))), fx_an, fx_an, fx_an, (fx_ac (ev_V (kx80 h) (by decide) rfl ⟨by decide, by decide⟩ iV_X6_readNot g_X6_150) (fx_ac (ev_V (kx86 h) (by decide) rfl ⟨by decide, by decide⟩ iV_X6_readSum g_X6_153) (fx_ac (ev_V (kx16 h) (by decide) rfl ⟨by decide, by decide⟩ iV_X9_advance g_X6_71) (fx_ac (ev_V (kx86 h) (by decide) rfl ⟨by decide, by decide⟩ iV_X6_readSum g_X6_153) (fx_ac (ev_V (kx26 h) (by decide) rfl ⟨by decide, by decide⟩ iV_X0_add g_X6_144) (fx_an))))))⟩ d_X6_readOne kx87_k
-- X6_readBoth 1 i ('c', 0)
def kx88_c : fx_C := ([.inr (.inr 2), .inl (0, 0)], [], [(some (.inl (0, 0)), [.inr (.inr 2), .inl (0, 0)], [((0, 2), .inl (1, 5))]), (some (.inl (1, 1)), [.inr (.inr 2), .inl (0, 0)], [((0, 1), .inr (.inr 9)), ((2, 6), .inr (.inr 10)), ((3, 4), .inl (1, 512)), ((3, 6), .inl (-2147483647, 30))])], [(0, 4), (0, 6), (6, 2), (6, 3), (9, 3), (9, 4), (9, 5), (9, 6), (9, 7), (1000, 17), (1000, 18)])
def kx88_a : List fx_N := [(12, [(0, .inr (.inr 2)), (1, .inl (0, 0)), (2, .inl (0, 1600))], [((0, 1), .inr (.inr 9)), ((3, 6), .inr (.inr 10)), ((4, 4), .inl (1, 512)), ((4, 6), .inl (-2147483647, 30))], [(0, 0), (1, 2), (0, 0)], [(0, 0), (1, 1)])]
def kx88_s : List fx_D := []
def kx88_x : fx_X := ([], [(12, 6, 0), (21, 6, 1), (38, 9, 4), (116, 10, 6)], [], [], [], [(2, 147, 6, kx87_c), (36, 71, 9, kx16_c), (41, 147, 6, kx87_c), (60, 144, 0, kx26_c)])
set_option maxRecDepth 100000 in
theorem kx88_k : fx_chk TX 3 kx88_c 3 kx88_x t_X6_readBoth kx88_a kx88_s 26 = true := by decide +kernel
set_option maxRecDepth 100000 in
theorem kx88 {l : Launch} {E : (Nat → Prop) → State → Prop} {ad : List Nat} {D : va_G} {gs : List Nat} {cy : Nat → ClassId} (h : fxX E D cy) : fx_Met l yX6_readBoth (.code yX6_readBoth cX6_readBoth 3 (some .boolean) :: wsL_law) ({ frames := 58, cells := 0, slots := 0, locals := 1287 }) E (gs, TX, cy, fun _ => True) ad D classes kx88_c :=
  fx_sound (x := kx88_x) (tb := t_X6_readBoth) (an := kx88_a) (sp := kx88_s) (rk := 3) 26 h.1 (fun _ _ _ _ _ _ => trivial) (fun _ _ _ _ _ _ => trivial) (ht_tys cy) (by decide) rfl ⟨fx_an, (fx_ac fl_X6_12 (fx_ac fl_X6_21 (fx_ac fl_X6_38 (fx_ac fl_X6_116 (fx_an))))), fx_an, fx_an, fx_an, (fx_ac (ev_V (kx87 h) (by decide) rfl ⟨by decide, by decide⟩ iV_X6_readOne g_X6_147) (fx_ac (ev_V (kx16 h) (by decide) rfl ⟨by decide, by decide⟩ iV_X9_advance g_X6_71) (fx_ac (ev_V (kx87 h) (by decide) rfl ⟨by decide, by decide⟩ iV_X6_readOne g_X6_147) (fx_ac (ev_V (kx26 h) (by decide) rfl ⟨by decide, by decide⟩ iV_X0_add g_X6_144) (fx_an)))))⟩ d_X6_readBoth kx88_k
-- X6_readEither 1 i ('c', 0)
def kx89_c : fx_C := ([.inr (.inr 2), .inl (0, 0)], [], [(some (.inl (0, 0)), [.inr (.inr 2), .inl (0, 0)], [((0, 2), .inl (1, 5))]), (some (.inl (1, 1)), [.inr (.inr 2), .inl (0, 0)], [((0, 1), .inr (.inr 9)), ((2, 6), .inr (.inr 10)), ((3, 4), .inl (1, 512)), ((3, 6), .inl (-2147483647, 30))])], [(0, 4), (0, 6), (6, 2), (6, 3), (9, 3), (9, 4), (9, 5), (9, 6), (9, 7), (1000, 17), (1000, 18)])
def kx89_a : List fx_N := [(12, [(0, .inr (.inr 2)), (1, .inl (0, 0)), (2, .inl (0, 1600))], [((0, 1), .inr (.inr 9)), ((3, 6), .inr (.inr 10)), ((4, 4), .inl (1, 512)), ((4, 6), .inl (-2147483647, 30))], [(0, 0), (1, 2), (0, 0)], [(0, 0), (1, 1)])]
def kx89_s : List fx_D := []
def kx89_x : fx_X := ([], [(12, 6, 0), (21, 6, 1), (38, 9, 4), (116, 10, 6)], [], [], [], [(2, 141, 6, kx88_c), (36, 71, 9, kx16_c), (41, 141, 6, kx88_c), (60, 144, 0, kx26_c)])
set_option maxRecDepth 100000 in
theorem kx89_k : fx_chk TX 3 kx89_c 3 kx89_x t_X6_readEither kx89_a kx89_s 26 = true := by decide +kernel
set_option maxRecDepth 100000 in
theorem kx89 {l : Launch} {E : (Nat → Prop) → State → Prop} {ad : List Nat} {D : va_G} {gs : List Nat} {cy : Nat → ClassId} (h : fxX E D cy) : fx_Met l yX6_readEither (.code yX6_readEither cX6_readEither 3 (some .boolean) :: wsL_law) ({ frames := 59, cells := 0, slots := 0, locals := 1309 }) E (gs, TX, cy, fun _ => True) ad D classes kx89_c :=
  fx_sound (x := kx89_x) (tb := t_X6_readEither) (an := kx89_a) (sp := kx89_s) (rk := 3) 26 h.1 (fun _ _ _ _ _ _ => trivial) (fun _ _ _ _ _ _ => trivial) (ht_tys cy) (by decide) rfl ⟨fx_an, (fx_ac fl_X6_12 (fx_ac fl_X6_21 (fx_ac fl_X6_38 (fx_ac fl_X6_116 (fx_an))))), fx_an, fx_an, fx_an, (fx_ac (ev_V (kx88 h) (by decide) rfl ⟨by decide, by decide⟩ iV_X6_readBoth g_X6_141) (fx_ac (ev_V (kx16 h) (by decide) rfl ⟨by decide, by decide⟩ iV_X9_advance g_X6_71) (fx_ac (ev_V (kx88 h) (by decide) rfl ⟨by decide, by decide⟩ iV_X6_readBoth g_X6_141) (fx_ac (ev_V (kx26 h) (by decide) rfl ⟨by decide, by decide⟩ iV_X0_add g_X6_144) (fx_an)))))⟩ d_X6_readEither kx89_k
-- X6_readMissLine 1
def kx90_c : fx_C := ([.inr (.inr 2)], [], [(some (.inl (0, 0)), [.inr (.inr 2)], [((0, 2), .inl (1, 5))]), (some (.inl (1, 1)), [.inr (.inr 2)], [((0, 1), .inr (.inr 9)), ((1, 6), .inr (.inr 10)), ((2, 4), .inl (1, 512)), ((2, 6), .inl (-2147483647, 30))])], [(0, 4), (0, 6), (0, 7), (6, 2), (6, 3), (9, 3), (9, 4), (9, 5), (9, 6), (9, 7), (1000, 17), (1000, 18)])
def kx90_a : List fx_N := []
def kx90_s : List fx_D := []
def kx90_x : fx_X := ([], [(12, 6, 0), (21, 6, 1), (116, 10, 6), (120, 0, 7)], [(120, 0, 7, 3)], [], [], [(14, 65, 6, kx19_c), (33, 71, 9, kx16_c), (38, 126, 6, kx89_c), (47, 89, 6, kx21_c)])
set_option maxRecDepth 100000 in
theorem kx90_k : fx_chk TX 1 kx90_c 3 kx90_x t_X6_readMissLine kx90_a kx90_s 26 = true := by decide +kernel
set_option maxRecDepth 100000 in
theorem kx90 {l : Launch} {E : (Nat → Prop) → State → Prop} {ad : List Nat} {D : va_G} {gs : List Nat} {cy : Nat → ClassId} (h : fxX E D cy) : fx_Met l yX6_readMissLine (.code yX6_readMissLine cX6_readMissLine 1 (some .boolean) :: wsL_law) ({ frames := 60, cells := 0, slots := 0, locals := 1331 }) E (gs, TX, cy, fun _ => True) ad D classes kx90_c :=
  fx_sound (x := kx90_x) (tb := t_X6_readMissLine) (an := kx90_a) (sp := kx90_s) (rk := 3) 26 h.1 (fun _ _ _ _ _ _ => trivial) (fun _ _ _ _ _ _ => trivial) (ht_tys cy) (by decide) rfl ⟨fx_an, (fx_ac fl_X6_12 (fx_ac fl_X6_21 (fx_ac fl_X6_116 (fx_ac fl_X6_120 (fx_an))))), (fx_ac pl_X6_120 (fx_an)), fx_an, fx_an, (fx_ac (ev_V (kx19 h) (by decide) rfl ⟨by decide, by decide⟩ iV_X6_refuse g_X6_65) (fx_ac (ev_V (kx16 h) (by decide) rfl ⟨by decide, by decide⟩ iV_X9_advance g_X6_71) (fx_ac (ev_V (kx89 h) (by decide) rfl ⟨by decide, by decide⟩ iV_X6_readEither g_X6_126) (fx_ac (ev_V (kx21 h) (by decide) rfl ⟨by decide, by decide⟩ iV_X6_pass g_X6_89) (fx_an)))))⟩ d_X6_readMissLine kx90_k
-- X1_clear 64
def kx91_c : fx_C := ([.inr (.inr 65)], [], [(none, [.inr (.inr 65)], [((0, 1), .inl (0, 0))])], [(1, 1)])
def kx91_a : List fx_N := []
def kx91_s : List fx_D := []
def kx91_x : fx_X := ([], [], [(21, 1, 1, 0)], [], [], [])
set_option maxRecDepth 100000 in
theorem kx91_k : fx_chk TX 1 kx91_c 9 kx91_x t_X1_clear kx91_a kx91_s 6 = true := by decide +kernel
set_option maxRecDepth 100000 in
theorem kx91 {l : Launch} {E : (Nat → Prop) → State → Prop} {ad : List Nat} {D : va_G} {gs : List Nat} {cy : Nat → ClassId} (h : fxX E D cy) : fx_Met l yX1_clear (.code yX1_clear cX1_clear 1 none :: wsL_law) ({ frames := 0, cells := 0, slots := 0, locals := 0 }) E (gs, TX, cy, fun _ => True) ad D classes kx91_c :=
  fx_sound (x := kx91_x) (tb := t_X1_clear) (an := kx91_a) (sp := kx91_s) (rk := 9) 6 h.1 (fun _ _ _ _ _ _ => trivial) (fun _ _ _ _ _ _ => trivial) (ht_tys cy) (by decide) rfl ⟨fx_an, fx_an, (fx_ac pl_X1_21 (fx_an)), fx_an, fx_an, fx_an⟩ d_X1_clear kx91_k
-- X10_addSlip 8
def kx92_c : fx_C := ([.inr (.inr 9)], [], [(some (.inr (.inr 0)), [.inr (.inr 9)], [((0, 9), .inl (5, 5))]), (some (.inr (.inr 65)), [.inr (.inr 9)], [((0, 9), .inl (1, 5))])], [(1, 1), (10, 9)])
def kx92_a : List fx_N := []
def kx92_s : List fx_D := []
def kx92_x : fx_X := ([], [(35, 10, 5), (53, 10, 9)], [(53, 10, 9, 0)], [], [], [(25, 63, 1, kx91_c)])
set_option maxRecDepth 100000 in
theorem kx92_k : fx_chk TX 2 kx92_c 4 kx92_x t_X10_addSlip kx92_a kx92_s 24 = true := by decide +kernel
set_option maxRecDepth 100000 in
theorem kx92 {l : Launch} {E : (Nat → Prop) → State → Prop} {ad : List Nat} {D : va_G} {gs : List Nat} {cy : Nat → ClassId} (h : fxX E D cy) : fx_Met l yX10_addSlip (.code yX10_addSlip cX10_addSlip 2 (some (.object "LostWords$Line")) :: wsL_law) ({ frames := 1, cells := 0, slots := 0, locals := 20 }) E (gs, TX, cy, fun _ => True) ad D classes kx92_c :=
  fx_sound (x := kx92_x) (tb := t_X10_addSlip) (an := kx92_a) (sp := kx92_s) (rk := 4) 24 h.1 (fun _ _ _ _ _ _ => trivial) (fun _ _ _ _ _ _ => trivial) (ht_tys cy) (by decide) ⟨_, rfl⟩ ⟨fx_an, (fx_ac fl_X10_35 (fx_ac fl_X10_53 (fx_an))), (fx_ac pl_X10_53 (fx_an)), fx_an, fx_an, (fx_ac (ev_V (kx91 h) (by decide) rfl ⟨by decide, by decide⟩ iV_X1_clear g_X10_63) (fx_an))⟩ d_X10_addSlip kx92_k
-- X10_wordNamed 8 l
def kx93_c : fx_C := ([.inr (.inr 9), .inr (.inl (-9223372036854775808, 9223372036854775807))], [], [(some (.inl (0, 8)), [.inr (.inr 9), .inr (.inl (-9223372036854775808, 9223372036854775807))], [((0, 7), .inl (1, 9))]), (some (.inl (-1, -1)), [.inr (.inr 9), .inr (.inl (-9223372036854775808, 9223372036854775807))], [])], [])
def kx93_a : List fx_N := [(2, [(0, .inr (.inr 9)), (1, .inr (.inl (-9223372036854775808, 9223372036854775807))), (3, .inl (0, 9))], [], [(0, 0), (1, 2), (0, 0)], [(0, 0), (1, 1)])]
def kx93_s : List fx_D := []
def kx93_x : fx_X := ([], [(9, 10, 0), (46, 10, 7)], [], [], [], [])
set_option maxRecDepth 100000 in
theorem kx93_k : fx_chk TX 4 kx93_c 0 kx93_x t_X10_wordNamed kx93_a kx93_s 21 = true := by decide +kernel
set_option maxRecDepth 100000 in
theorem kx93 {l : Launch} {E : (Nat → Prop) → State → Prop} {ad : List Nat} {D : va_G} {gs : List Nat} {cy : Nat → ClassId} (h : fxX E D cy) : fx_Met l yX10_wordNamed (.code yX10_wordNamed cX10_wordNamed 4 (some .int) :: wsL_law) ({ frames := 0, cells := 0, slots := 0, locals := 0 }) E (gs, TX, cy, fun _ => True) ad D classes kx93_c :=
  fx_sound (x := kx93_x) (tb := t_X10_wordNamed) (an := kx93_a) (sp := kx93_s) (rk := 0) 21 h.1 (fun _ _ _ _ _ _ => trivial) (fun _ _ _ _ _ _ => trivial) (ht_tys cy) (by decide) rfl ⟨fx_an, (fx_ac fl_X10_9 (fx_ac fl_X10_46 (fx_an))), fx_an, fx_an, fx_an, fx_an⟩ d_X10_wordNamed kx93_k
-- X6_canReadWord 1
def kx94_c : fx_C := ([.inr (.inr 2)], [], [(some (.inl (0, 0)), [.inr (.inr 2)], [((0, 2), .inl (1, 5))]), (some (.inl (1, 1)), [.inr (.inr 2)], [((0, 0), .inr (.inr 8)), ((1, 4), .inl (97, 97)), ((0, 1), .inr (.inr 9)), ((3, 7), .inl (1, 9))])], [(6, 2), (6, 3)])
def kx94_a : List fx_N := []
def kx94_s : List fx_D := []
def kx94_x : fx_X := ([], [(12, 6, 0), (21, 6, 1), (38, 9, 4), (74, 9, 7), (82, 9, 5)], [], [], [], [(13, 65, 6, kx19_c), (28, 78, 10, kx93_c), (44, 85, 6, kx18_c)])
set_option maxRecDepth 100000 in
theorem kx94_k : fx_chk TX 1 kx94_c 3 kx94_x t_X6_canReadWord kx94_a kx94_s 24 = true := by decide +kernel
set_option maxRecDepth 100000 in
theorem kx94 {l : Launch} {E : (Nat → Prop) → State → Prop} {ad : List Nat} {D : va_G} {gs : List Nat} {cy : Nat → ClassId} (h : fxX E D cy) : fx_Met l yX6_canReadWord (.code yX6_canReadWord cX6_canReadWord 1 (some .boolean) :: wsL_law) ({ frames := 2, cells := 0, slots := 0, locals := 42 }) E (gs, TX, cy, fun _ => True) ad D classes kx94_c :=
  fx_sound (x := kx94_x) (tb := t_X6_canReadWord) (an := kx94_a) (sp := kx94_s) (rk := 3) 24 h.1 (fun _ _ _ _ _ _ => trivial) (fun _ _ _ _ _ _ => trivial) (ht_tys cy) (by decide) rfl ⟨fx_an, (fx_ac fl_X6_12 (fx_ac fl_X6_21 (fx_ac fl_X6_38 (fx_ac fl_X6_74 (fx_ac fl_X6_82 (fx_an)))))), fx_an, fx_an, fx_an, (fx_ac (ev_V (kx19 h) (by decide) rfl ⟨by decide, by decide⟩ iV_X6_refuse g_X6_65) (fx_ac (ev_V (kx93 h) (by decide) rfl ⟨by decide, by decide⟩ iV_X10_wordNamed g_X6_78) (fx_ac (ev_V (kx18 h) (by decide) rfl ⟨by decide, by decide⟩ iV_X6_fail g_X6_85) (fx_an))))⟩ d_X6_canReadWord kx94_k
-- X1_hasRoom 64
def kx95_c : fx_C := ([.inr (.inr 65)], [], [(some (.inl (1, 1)), [.inr (.inr 65)], [((0, 1), .inl (0, 7))]), (some (.inl (0, 0)), [.inr (.inr 65)], [((0, 1), .inl (8, 8))])], [])
def kx95_a : List fx_N := []
def kx95_s : List fx_D := []
def kx95_x : fx_X := ([], [(15, 1, 0), (21, 1, 1)], [], [], [], [])
set_option maxRecDepth 100000 in
theorem kx95_k : fx_chk TX 1 kx95_c 3 kx95_x t_X1_hasRoom kx95_a kx95_s 14 = true := by decide +kernel
set_option maxRecDepth 100000 in
theorem kx95 {l : Launch} {E : (Nat → Prop) → State → Prop} {ad : List Nat} {D : va_G} {gs : List Nat} {cy : Nat → ClassId} (h : fxX E D cy) : fx_Met l yX1_hasRoom (.code yX1_hasRoom cX1_hasRoom 1 (some .boolean) :: wsL_law) ({ frames := 0, cells := 0, slots := 0, locals := 0 }) E (gs, TX, cy, fun _ => True) ad D classes kx95_c :=
  fx_sound (x := kx95_x) (tb := t_X1_hasRoom) (an := kx95_a) (sp := kx95_s) (rk := 3) 14 h.1 (fun _ _ _ _ _ _ => trivial) (fun _ _ _ _ _ _ => trivial) (ht_tys cy) (by decide) rfl ⟨fx_an, (fx_ac fl_X1_15 (fx_ac fl_X1_21 (fx_an))), fx_an, fx_an, fx_an, fx_an⟩ d_X1_hasRoom kx95_k
-- X1_add 64 i
def kx96_c : fx_C := ([.inr (.inr 65), .inl (-1, 8)], [], [(none, [.inr (.inr 65), .inl (-1, 8)], [((0, 1), .inl (1, 8))])], [(1, 1), (1000, 44)])
def kx96_a : List fx_N := []
def kx96_s : List fx_D := []
def kx96_x : fx_X := ([], [(15, 1, 0), (21, 1, 1)], [(21, 1, 1, 0)], [], [], [(1, 25, 1, kx95_c)])
set_option maxRecDepth 100000 in
theorem kx96_k : fx_chk TX 2 kx96_c 9 kx96_x t_X1_add kx96_a kx96_s 18 = true := by decide +kernel
set_option maxRecDepth 100000 in
theorem kx96 {l : Launch} {E : (Nat → Prop) → State → Prop} {ad : List Nat} {D : va_G} {gs : List Nat} {cy : Nat → ClassId} (h : fxX E D cy) : fx_Met l yX1_add (.code yX1_add cX1_add 2 none :: wsL_law) ({ frames := 1, cells := 0, slots := 0, locals := 20 }) E (gs, TX, cy, fun _ => True) ad D classes kx96_c :=
  fx_sound (x := kx96_x) (tb := t_X1_add) (an := kx96_a) (sp := kx96_s) (rk := 9) 18 h.1 (fun _ _ _ _ _ _ => trivial) (fun _ _ _ _ _ _ => trivial) (ht_tys cy) (by decide) rfl ⟨fx_an, (fx_ac fl_X1_15 (fx_ac fl_X1_21 (fx_an))), (fx_ac pl_X1_21 (fx_an)), fx_an, fx_an, (fx_ac (ev_V (kx95 h) (by decide) rfl ⟨by decide, by decide⟩ iV_X1_hasRoom g_X1_25) (fx_an))⟩ d_X1_add kx96_k
-- X6_readWords 1 64 i
def kx97_c : fx_C := ([.inr (.inr 2), .inr (.inr 65), .inl (8, 8)], [], [(some (.inl (0, 0)), [.inr (.inr 2), .inr (.inr 65), .inl (8, 8)], [((0, 2), .inl (1, 5))]), (some (.inl (1, 1)), [.inr (.inr 2), .inr (.inr 65), .inl (8, 8)], [])], [(1, 1), (6, 2), (6, 3), (9, 3), (9, 4), (9, 5), (9, 6), (9, 7), (1000, 44)])
def kx97_a : List fx_N := [(35, [(0, .inr (.inr 2)), (1, .inr (.inr 65)), (2, .inl (8, 8)), (3, .inl (0, 8))], [], [(0, 0), (1, 3), (0, 0)], [(0, 0), (1, 1), (2, 2)])]
def kx97_s : List fx_D := []
def kx97_x : fx_X := ([], [(12, 6, 0), (21, 6, 1), (38, 9, 4), (74, 9, 7)], [], [], [], [(13, 71, 9, kx16_c), (29, 65, 6, kx19_c), (53, 106, 6, kx94_c), (73, 78, 10, kx93_c), (76, 135, 1, kx96_c), (83, 71, 9, kx16_c), (95, 89, 6, kx21_c)])
set_option maxRecDepth 100000 in
theorem kx97_k : fx_chk TX 4 kx97_c 3 kx97_x t_X6_readWords kx97_a kx97_s 27 = true := by decide +kernel
set_option maxRecDepth 100000 in
theorem kx97 {l : Launch} {E : (Nat → Prop) → State → Prop} {ad : List Nat} {D : va_G} {gs : List Nat} {cy : Nat → ClassId} (h : fxX E D cy) : fx_Met l yX6_readWords (.code yX6_readWords cX6_readWords 4 (some .boolean) :: wsL_law) ({ frames := 6, cells := 0, slots := 0, locals := 133 }) E (gs, TX, cy, fun _ => True) ad D classes kx97_c :=
  fx_sound (x := kx97_x) (tb := t_X6_readWords) (an := kx97_a) (sp := kx97_s) (rk := 3) 27 h.1 (fun _ _ _ _ _ _ => trivial) (fun _ _ _ _ _ _ => trivial) (ht_tys cy) (by decide) rfl ⟨fx_an, (fx_ac fl_X6_12 (fx_ac fl_X6_21 (fx_ac fl_X6_38 (fx_ac fl_X6_74 (fx_an))))), fx_an, fx_an, fx_an, (fx_ac (ev_V (kx16 h) (by decide) rfl ⟨by decide, by decide⟩ iV_X9_advance g_X6_71) (fx_ac (ev_V (kx19 h) (by decide) rfl ⟨by decide, by decide⟩ iV_X6_refuse g_X6_65) (fx_ac (ev_V (kx94 h) (by decide) rfl ⟨by decide, by decide⟩ iV_X6_canReadWord g_X6_106) (fx_ac (ev_V (kx93 h) (by decide) rfl ⟨by decide, by decide⟩ iV_X10_wordNamed g_X6_78) (fx_ac (ev_V (kx96 h) (by decide) rfl ⟨by decide, by decide⟩ iV_X1_add g_X6_135) (fx_ac (ev_V (kx16 h) (by decide) rfl ⟨by decide, by decide⟩ iV_X9_advance g_X6_71) (fx_ac (ev_V (kx21 h) (by decide) rfl ⟨by decide, by decide⟩ iV_X6_pass g_X6_89) (fx_an))))))))⟩ d_X6_readWords kx97_k
-- X6_readWords 1 n i
def kx98_c : fx_C := ([.inr (.inr 2), .inr (.inr 0), .inl (8, 12)], [], [(some (.inl (0, 0)), [.inr (.inr 2), .inr (.inr 0), .inl (8, 12)], [((0, 2), .inl (1, 5))])], [(6, 2), (6, 3)])
def kx98_a : List fx_N := []
def kx98_s : List fx_D := []
def kx98_x : fx_X := ([], [], [], [], [], [(5, 65, 6, kx19_c)])
set_option maxRecDepth 100000 in
theorem kx98_k : fx_chk TX 4 kx98_c 3 kx98_x t_X6_readWords kx98_a kx98_s 7 = true := by decide +kernel
set_option maxRecDepth 100000 in
theorem kx98 {l : Launch} {E : (Nat → Prop) → State → Prop} {ad : List Nat} {D : va_G} {gs : List Nat} {cy : Nat → ClassId} (h : fxX E D cy) : fx_Met l yX6_readWords (.code yX6_readWords cX6_readWords 4 (some .boolean) :: wsL_law) ({ frames := 2, cells := 0, slots := 0, locals := 42 }) E (gs, TX, cy, fun _ => True) ad D classes kx98_c :=
  fx_sound (x := kx98_x) (tb := t_X6_readWords) (an := kx98_a) (sp := kx98_s) (rk := 3) 7 h.1 (fun _ _ _ _ _ _ => trivial) (fun _ _ _ _ _ _ => trivial) (ht_tys cy) (by decide) rfl ⟨fx_an, fx_an, fx_an, fx_an, fx_an, (fx_ac (ev_V (kx19 h) (by decide) rfl ⟨by decide, by decide⟩ iV_X6_refuse g_X6_65) (fx_an))⟩ d_X6_readWords kx98_k
-- X10_addRow 8
def kx99_c : fx_C := ([.inr (.inr 9)], [], [(some (.inr (.inr 0)), [.inr (.inr 9)], [((0, 4), .inr (.inr 12)), ((1, 1), .inl (1, 12))]), (some (.inr (.inr 12)), [.inr (.inr 9)], [((0, 4), .inr (.inr 12)), ((1, 1), .inl (0, 0))])], [])
def kx99_a : List fx_N := []
def kx99_s : List fx_D := []
def kx99_x : fx_X := ([], [(31, 10, 4), (77, 1, 1)], [], [], [], [])
set_option maxRecDepth 100000 in
theorem kx99_k : fx_chk TX 1 kx99_c 4 kx99_x t_X10_addRow kx99_a kx99_s 9 = true := by decide +kernel
set_option maxRecDepth 100000 in
theorem kx99 {l : Launch} {E : (Nat → Prop) → State → Prop} {ad : List Nat} {D : va_G} {gs : List Nat} {cy : Nat → ClassId} (h : fxX E D cy) : fx_Met l yX10_addRow (.code yX10_addRow cX10_addRow 1 (some (.object "LostWords$Line")) :: wsL_law) ({ frames := 0, cells := 0, slots := 0, locals := 0 }) E (gs, TX, cy, fun _ => True) ad D classes kx99_c :=
  fx_sound (x := kx99_x) (tb := t_X10_addRow) (an := kx99_a) (sp := kx99_s) (rk := 4) 9 h.1 (fun _ _ _ _ _ _ => trivial) (fun _ _ _ _ _ _ => trivial) (ht_tys cy) (by decide) ⟨_, rfl⟩ ⟨fx_an, (fx_ac fl_X10_31 (fx_ac fl_X10_77 (fx_an))), fx_an, fx_an, fx_an, fx_an⟩ d_X10_addRow kx99_k
-- X1_hasRoom 11
def kx100_c : fx_C := ([.inr (.inr 12)], [], [(some (.inl (1, 1)), [.inr (.inr 12)], [((0, 1), .inl (0, 11))]), (some (.inl (0, 0)), [.inr (.inr 12)], [((0, 1), .inl (12, 12))])], [])
def kx100_a : List fx_N := []
def kx100_s : List fx_D := []
def kx100_x : fx_X := ([], [(15, 1, 0), (21, 1, 1)], [], [], [], [])
set_option maxRecDepth 100000 in
theorem kx100_k : fx_chk TX 1 kx100_c 3 kx100_x t_X1_hasRoom kx100_a kx100_s 14 = true := by decide +kernel
set_option maxRecDepth 100000 in
theorem kx100 {l : Launch} {E : (Nat → Prop) → State → Prop} {ad : List Nat} {D : va_G} {gs : List Nat} {cy : Nat → ClassId} (h : fxX E D cy) : fx_Met l yX1_hasRoom (.code yX1_hasRoom cX1_hasRoom 1 (some .boolean) :: wsL_law) ({ frames := 0, cells := 0, slots := 0, locals := 0 }) E (gs, TX, cy, fun _ => True) ad D classes kx100_c :=
  fx_sound (x := kx100_x) (tb := t_X1_hasRoom) (an := kx100_a) (sp := kx100_s) (rk := 3) 14 h.1 (fun _ _ _ _ _ _ => trivial) (fun _ _ _ _ _ _ => trivial) (ht_tys cy) (by decide) rfl ⟨fx_an, (fx_ac fl_X1_15 (fx_ac fl_X1_21 (fx_an))), fx_an, fx_an, fx_an, fx_an⟩ d_X1_hasRoom kx100_k
-- X1_add 11 i
def kx101_c : fx_C := ([.inr (.inr 12), .inl (-2147483648, 2147483647)], [], [(none, [.inr (.inr 12), .inl (-2147483648, 2147483647)], [((0, 1), .inl (1, 12))])], [(1, 1), (1000, 14)])
def kx101_a : List fx_N := []
def kx101_s : List fx_D := []
def kx101_x : fx_X := ([], [(15, 1, 0), (21, 1, 1)], [(21, 1, 1, 0)], [], [], [(1, 25, 1, kx100_c)])
set_option maxRecDepth 100000 in
theorem kx101_k : fx_chk TX 2 kx101_c 9 kx101_x t_X1_add kx101_a kx101_s 18 = true := by decide +kernel
set_option maxRecDepth 100000 in
theorem kx101 {l : Launch} {E : (Nat → Prop) → State → Prop} {ad : List Nat} {D : va_G} {gs : List Nat} {cy : Nat → ClassId} (h : fxX E D cy) : fx_Met l yX1_add (.code yX1_add cX1_add 2 none :: wsL_law) ({ frames := 1, cells := 0, slots := 0, locals := 20 }) E (gs, TX, cy, fun _ => True) ad D classes kx101_c :=
  fx_sound (x := kx101_x) (tb := t_X1_add) (an := kx101_a) (sp := kx101_s) (rk := 9) 18 h.1 (fun _ _ _ _ _ _ => trivial) (fun _ _ _ _ _ _ => trivial) (ht_tys cy) (by decide) rfl ⟨fx_an, (fx_ac fl_X1_15 (fx_ac fl_X1_21 (fx_an))), (fx_ac pl_X1_21 (fx_an)), fx_an, fx_an, (fx_ac (ev_V (kx100 h) (by decide) rfl ⟨by decide, by decide⟩ iV_X1_hasRoom g_X1_25) (fx_an))⟩ d_X1_add kx101_k
