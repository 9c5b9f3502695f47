-- X6_readOne 1 i ('c', 6)
def kx39_c : fx_C := ([.inr (.inr 2), .inl (6, 6)], [], [(some (.inl (0, 0)), [.inr (.inr 2), .inl (6, 6)], [((0, 2), .inl (1, 5))]), (some (.inl (1, 1)), [.inr (.inr 2), .inl (6, 6)], [((0, 1), .inr (.inr 9)), ((2, 6), .inr (.inr 10)), ((3, 4), .inl (1, 512)), ((3, 6), .inl (-2147483647, 30))])], [(0, 4), (0, 6), (6, 2), (6, 3), (9, 3), (9, 4), (9, 5), (9, 6), (9, 7), (1000, 17), (1000, 18)])
def kx39_a : List fx_N := []
def kx39_s : List fx_D := []
def kx39_x : fx_X := ([], [(12, 6, 0), (21, 6, 1), (38, 9, 4), (116, 10, 6)], [], [], [], [(15, 150, 6, kx32_c), (21, 153, 6, kx38_c), (61, 71, 9, kx16_c), (66, 153, 6, kx38_c), (83, 144, 0, kx26_c)])
set_option maxRecDepth 100000 in
theorem kx39_k : fx_chk TX 3 kx39_c 3 kx39_x t_X6_readOne kx39_a kx39_s 39 = true := by decide +kernel
set_option maxRecDepth 100000 in
theorem kx39 {l : Launch} {E : (Nat → Prop) → State → Prop} {ad : List Nat} {D : va_G} {gs : List Nat} {cy : Nat → ClassId} (h : fxX E D cy) : fx_Met l yX6_readOne (.code yX6_readOne cX6_readOne 3 (some .boolean) :: wsL_law) ({ frames := 15, cells := 0, slots := 0, locals := 335 }) E (gs, TX, cy, fun _ => True) ad D classes kx39_c :=
  fx_sound (x := kx39_x) (tb := t_X6_readOne) (an := kx39_a) (sp := kx39_s) (rk := 3) 39 h.1 (fun _ _ _ _ _ _ => trivial) (fun _ _ _ _ _ _ => trivial) (ht_tys cy) (by decide) rfl ⟨fx_an, (fx_ac fl_X6_12 (fx_ac fl_X6_21 (fx_ac fl_X6_38 (fx_ac fl_X6_116 (fx_an))))), fx_an, fx_an, fx_an, (fx_ac (ev_V (kx32 h) (by decide) rfl ⟨by decide, by decide⟩ iV_X6_readNot g_X6_150) (fx_ac (ev_V (kx38 h) (by decide) rfl ⟨by decide, by decide⟩ iV_X6_readSum g_X6_153) (fx_ac (ev_V (kx16 h) (by decide) rfl ⟨by decide, by decide⟩ iV_X9_advance g_X6_71) (fx_ac (ev_V (kx38 h) (by decide) rfl ⟨by decide, by decide⟩ iV_X6_readSum g_X6_153) (fx_ac (ev_V (kx26 h) (by decide) rfl ⟨by decide, by decide⟩ iV_X0_add g_X6_144) (fx_an))))))⟩ d_X6_readOne kx39_k
-- X6_readNot 1 i ('c', 5)
def kx40_c : fx_C := ([.inr (.inr 2), .inl (5, 5)], [], [(some (.inl (1, 1)), [.inr (.inr 2), .inl (5, 5)], [((0, 1), .inr (.inr 9)), ((2, 6), .inr (.inr 10)), ((3, 4), .inl (1, 512)), ((3, 6), .inl (-2147483647, 30))]), (some (.inl (0, 0)), [.inr (.inr 2), .inl (5, 5)], [((0, 2), .inl (1, 5))])], [(0, 4), (0, 6), (6, 2), (6, 3), (9, 3), (9, 4), (9, 5), (9, 6), (9, 7), (1000, 17), (1000, 18)])
def kx40_a : List fx_N := []
def kx40_s : List fx_D := []
def kx40_x : fx_X := ([], [(12, 6, 0), (21, 6, 1), (116, 10, 6)], [], [], [], [(15, 71, 9, kx16_c), (22, 147, 6, kx39_c), (41, 144, 0, kx26_c)])
set_option maxRecDepth 100000 in
theorem kx40_k : fx_chk TX 2 kx40_c 3 kx40_x t_X6_readNot kx40_a kx40_s 22 = true := by decide +kernel
set_option maxRecDepth 100000 in
theorem kx40 {l : Launch} {E : (Nat → Prop) → State → Prop} {ad : List Nat} {D : va_G} {gs : List Nat} {cy : Nat → ClassId} (h : fxX E D cy) : fx_Met l yX6_readNot (.code yX6_readNot cX6_readNot 2 (some .boolean) :: wsL_law) ({ frames := 16, cells := 0, slots := 0, locals := 357 }) E (gs, TX, cy, fun _ => True) ad D classes kx40_c :=
  fx_sound (x := kx40_x) (tb := t_X6_readNot) (an := kx40_a) (sp := kx40_s) (rk := 3) 22 h.1 (fun _ _ _ _ _ _ => trivial) (fun _ _ _ _ _ _ => trivial) (ht_tys cy) (by decide) rfl ⟨fx_an, (fx_ac fl_X6_12 (fx_ac fl_X6_21 (fx_ac fl_X6_116 (fx_an)))), fx_an, fx_an, fx_an, (fx_ac (ev_V (kx16 h) (by decide) rfl ⟨by decide, by decide⟩ iV_X9_advance g_X6_71) (fx_ac (ev_V (kx39 h) (by decide) rfl ⟨by decide, by decide⟩ iV_X6_readOne g_X6_147) (fx_ac (ev_V (kx26 h) (by decide) rfl ⟨by decide, by decide⟩ iV_X0_add g_X6_144) (fx_an))))⟩ d_X6_readNot kx40_k
-- X6_readBoth 1 i ('c', 6)
def kx41_c : fx_C := ([.inr (.inr 2), .inl (6, 6)], [], [(some (.inl (0, 0)), [.inr (.inr 2), .inl (6, 6)], [((0, 2), .inl (1, 5))]), (some (.inl (1, 1)), [.inr (.inr 2), .inl (6, 6)], [((0, 1), .inr (.inr 9)), ((2, 6), .inr (.inr 10)), ((3, 4), .inl (1, 512)), ((3, 6), .inl (-2147483647, 30))])], [(0, 4), (0, 6), (6, 2), (6, 3), (9, 3), (9, 4), (9, 5), (9, 6), (9, 7), (1000, 17), (1000, 18)])
def kx41_a : List fx_N := [(12, [(0, .inr (.inr 2)), (1, .inl (6, 6)), (2, .inl (0, 1600))], [((0, 1), .inr (.inr 9)), ((3, 6), .inr (.inr 10)), ((4, 4), .inl (1, 512)), ((4, 6), .inl (-2147483647, 30))], [(0, 0), (1, 2), (0, 0)], [(0, 0), (1, 1)])]
def kx41_s : List fx_D := []
def kx41_x : fx_X := ([], [(12, 6, 0), (21, 6, 1), (38, 9, 4), (116, 10, 6)], [], [], [], [(2, 147, 6, kx39_c), (36, 71, 9, kx16_c), (41, 147, 6, kx39_c), (60, 144, 0, kx26_c)])
set_option maxRecDepth 100000 in
theorem kx41_k : fx_chk TX 3 kx41_c 3 kx41_x t_X6_readBoth kx41_a kx41_s 26 = true := by decide +kernel
set_option maxRecDepth 100000 in
theorem kx41 {l : Launch} {E : (Nat → Prop) → State → Prop} {ad : List Nat} {D : va_G} {gs : List Nat} {cy : Nat → ClassId} (h : fxX E D cy) : fx_Met l yX6_readBoth (.code yX6_readBoth cX6_readBoth 3 (some .boolean) :: wsL_law) ({ frames := 16, cells := 0, slots := 0, locals := 357 }) E (gs, TX, cy, fun _ => True) ad D classes kx41_c :=
  fx_sound (x := kx41_x) (tb := t_X6_readBoth) (an := kx41_a) (sp := kx41_s) (rk := 3) 26 h.1 (fun _ _ _ _ _ _ => trivial) (fun _ _ _ _ _ _ => trivial) (ht_tys cy) (by decide) rfl ⟨fx_an, (fx_ac fl_X6_12 (fx_ac fl_X6_21 (fx_ac fl_X6_38 (fx_ac fl_X6_116 (fx_an))))), fx_an, fx_an, fx_an, (fx_ac (ev_V (kx39 h) (by decide) rfl ⟨by decide, by decide⟩ iV_X6_readOne g_X6_147) (fx_ac (ev_V (kx16 h) (by decide) rfl ⟨by decide, by decide⟩ iV_X9_advance g_X6_71) (fx_ac (ev_V (kx39 h) (by decide) rfl ⟨by decide, by decide⟩ iV_X6_readOne g_X6_147) (fx_ac (ev_V (kx26 h) (by decide) rfl ⟨by decide, by decide⟩ iV_X0_add g_X6_144) (fx_an)))))⟩ d_X6_readBoth kx41_k
-- X6_readEither 1 i ('c', 6)
def kx42_c : fx_C := ([.inr (.inr 2), .inl (6, 6)], [], [(some (.inl (0, 0)), [.inr (.inr 2), .inl (6, 6)], [((0, 2), .inl (1, 5))]), (some (.inl (1, 1)), [.inr (.inr 2), .inl (6, 6)], [((0, 1), .inr (.inr 9)), ((2, 6), .inr (.inr 10)), ((3, 4), .inl (1, 512)), ((3, 6), .inl (-2147483647, 30))])], [(0, 4), (0, 6), (6, 2), (6, 3), (9, 3), (9, 4), (9, 5), (9, 6), (9, 7), (1000, 17), (1000, 18)])
def kx42_a : List fx_N := [(12, [(0, .inr (.inr 2)), (1, .inl (6, 6)), (2, .inl (0, 1600))], [((0, 1), .inr (.inr 9)), ((3, 6), .inr (.inr 10)), ((4, 4), .inl (1, 512)), ((4, 6), .inl (-2147483647, 30))], [(0, 0), (1, 2), (0, 0)], [(0, 0), (1, 1)])]
def kx42_s : List fx_D := []
def kx42_x : fx_X := ([], [(12, 6, 0), (21, 6, 1), (38, 9, 4), (116, 10, 6)], [], [], [], [(2, 141, 6, kx41_c), (36, 71, 9, kx16_c), (41, 141, 6, kx41_c), (60, 144, 0, kx26_c)])
set_option maxRecDepth 100000 in
theorem kx42_k : fx_chk TX 3 kx42_c 3 kx42_x t_X6_readEither kx42_a kx42_s 26 = true := by decide +kernel
set_option maxRecDepth 100000 in
theorem kx42 {l : Launch} {E : (Nat → Prop) → State → Prop} {ad : List Nat} {D : va_G} {gs : List Nat} {cy : Nat → ClassId} (h : fxX E D cy) : fx_Met l yX6_readEither (.code yX6_readEither cX6_readEither 3 (some .boolean) :: wsL_law) ({ frames := 17, cells := 0, slots := 0, locals := 379 }) E (gs, TX, cy, fun _ => True) ad D classes kx42_c :=
  fx_sound (x := kx42_x) (tb := t_X6_readEither) (an := kx42_a) (sp := kx42_s) (rk := 3) 26 h.1 (fun _ _ _ _ _ _ => trivial) (fun _ _ _ _ _ _ => trivial) (ht_tys cy) (by decide) rfl ⟨fx_an, (fx_ac fl_X6_12 (fx_ac fl_X6_21 (fx_ac fl_X6_38 (fx_ac fl_X6_116 (fx_an))))), fx_an, fx_an, fx_an, (fx_ac (ev_V (kx41 h) (by decide) rfl ⟨by decide, by decide⟩ iV_X6_readBoth g_X6_141) (fx_ac (ev_V (kx16 h) (by decide) rfl ⟨by decide, by decide⟩ iV_X9_advance g_X6_71) (fx_ac (ev_V (kx41 h) (by decide) rfl ⟨by decide, by decide⟩ iV_X6_readBoth g_X6_141) (fx_ac (ev_V (kx26 h) (by decide) rfl ⟨by decide, by decide⟩ iV_X0_add g_X6_144) (fx_an)))))⟩ d_X6_readEither kx42_k
-- X6_readBracket 1 i ('c', 5)
def kx43_c : fx_C := ([.inr (.inr 2), .inl (5, 5)], [], [(some (.inl (1, 1)), [.inr (.inr 2), .inl (5, 5)], [((0, 1), .inr (.inr 9)), ((2, 6), .inr (.inr 10)), ((3, 4), .inl (1, 512)), ((3, 6), .inl (-2147483647, 30))]), (some (.inl (0, 0)), [.inr (.inr 2), .inl (5, 5)], [((0, 2), .inl (1, 5))])], [(0, 4), (0, 6), (6, 2), (6, 3), (9, 3), (9, 4), (9, 5), (9, 6), (9, 7), (1000, 17), (1000, 18)])
def kx43_a : List fx_N := []
def kx43_s : List fx_D := []
def kx43_x : fx_X := ([], [(12, 6, 0), (21, 6, 1), (116, 10, 6), (165, 0, 6)], [(165, 0, 6, 0)], [], [], [(31, 71, 9, kx16_c), (38, 126, 6, kx42_c), (47, 89, 6, kx21_c)])
set_option maxRecDepth 100000 in
theorem kx43_k : fx_chk TX 2 kx43_c 3 kx43_x t_X6_readBracket kx43_a kx43_s 29 = true := by decide +kernel
set_option maxRecDepth 100000 in
theorem kx43 {l : Launch} {E : (Nat → Prop) → State → Prop} {ad : List Nat} {D : va_G} {gs : List Nat} {cy : Nat → ClassId} (h : fxX E D cy) : fx_Met l yX6_readBracket (.code yX6_readBracket cX6_readBracket 2 (some .boolean) :: wsL_law) ({ frames := 18, cells := 0, slots := 0, locals := 401 }) E (gs, TX, cy, fun _ => True) ad D classes kx43_c :=
  fx_sound (x := kx43_x) (tb := t_X6_readBracket) (an := kx43_a) (sp := kx43_s) (rk := 3) 29 h.1 (fun _ _ _ _ _ _ => trivial) (fun _ _ _ _ _ _ => trivial) (ht_tys cy) (by decide) rfl ⟨fx_an, (fx_ac fl_X6_12 (fx_ac fl_X6_21 (fx_ac fl_X6_116 (fx_ac fl_X6_165 (fx_an))))), (fx_ac pl_X6_165 (fx_an)), fx_an, fx_an, (fx_ac (ev_V (kx16 h) (by decide) rfl ⟨by decide, by decide⟩ iV_X9_advance g_X6_71) (fx_ac (ev_V (kx42 h) (by decide) rfl ⟨by decide, by decide⟩ iV_X6_readEither g_X6_126) (fx_ac (ev_V (kx21 h) (by decide) rfl ⟨by decide, by decide⟩ iV_X6_pass g_X6_89) (fx_an))))⟩ d_X6_readBracket kx43_k
-- X6_readUnit 1 i ('c', 5)
def kx44_c : fx_C := ([.inr (.inr 2), .inl (5, 5)], [], [(some (.inl (0, 0)), [.inr (.inr 2), .inl (5, 5)], [((0, 2), .inl (1, 5))]), (some (.inl (1, 1)), [.inr (.inr 2), .inl (5, 5)], [((0, 1), .inr (.inr 9)), ((2, 6), .inr (.inr 10)), ((3, 4), .inl (1, 512)), ((3, 6), .inl (-2147483647, 30))])], [(0, 4), (0, 6), (6, 2), (6, 3), (9, 3), (9, 4), (9, 5), (9, 6), (9, 7), (1000, 17), (1000, 18)])
def kx44_a : List fx_N := []
def kx44_s : List fx_D := []
def kx44_x : fx_X := ([], [(12, 6, 0), (21, 6, 1), (38, 9, 4), (96, 9, 6), (116, 10, 6), (165, 0, 6)], [(165, 0, 6, 0)], [], [], [(24, 65, 6, kx19_c), (36, 168, 6, kx43_c), (47, 171, 1000, kx25_c), (54, 65, 6, kx19_c), (89, 144, 0, kx26_c), (96, 71, 9, kx16_c)])
set_option maxRecDepth 100000 in
theorem kx44_k : fx_chk TX 3 kx44_c 3 kx44_x t_X6_readUnit kx44_a kx44_s 42 = true := by decide +kernel
set_option maxRecDepth 100000 in
theorem kx44 {l : Launch} {E : (Nat → Prop) → State → Prop} {ad : List Nat} {D : va_G} {gs : List Nat} {cy : Nat → ClassId} (h : fxX E D cy) : fx_Met l yX6_readUnit (.code yX6_readUnit cX6_readUnit 3 (some .boolean) :: wsL_law) ({ frames := 19, cells := 0, slots := 0, locals := 422 }) E (gs, TX, cy, fun _ => True) ad D classes kx44_c :=
  fx_sound (x := kx44_x) (tb := t_X6_readUnit) (an := kx44_a) (sp := kx44_s) (rk := 3) 42 h.1 (fun _ _ _ _ _ _ => trivial) (fun _ _ _ _ _ _ => trivial) (ht_tys cy) (by decide) rfl ⟨fx_an, (fx_ac fl_X6_12 (fx_ac fl_X6_21 (fx_ac fl_X6_38 (fx_ac fl_X6_96 (fx_ac fl_X6_116 (fx_ac fl_X6_165 (fx_an))))))), (fx_ac pl_X6_165 (fx_an)), fx_an, fx_an, (fx_ac (ev_V (kx19 h) (by decide) rfl ⟨by decide, by decide⟩ iV_X6_refuse g_X6_65) (fx_ac (ev_V (kx43 h) (by decide) rfl ⟨by decide, by decide⟩ iV_X6_readBracket g_X6_168) (fx_ac (ev_S (kx25 h) ⟨by decide, by decide⟩ iS_X9_isKnownKey g_X6_171) (fx_ac (ev_V (kx19 h) (by decide) rfl ⟨by decide, by decide⟩ iV_X6_refuse g_X6_65) (fx_ac (ev_V (kx26 h) (by decide) rfl ⟨by decide, by decide⟩ iV_X0_add g_X6_144) (fx_ac (ev_V (kx16 h) (by decide) rfl ⟨by decide, by decide⟩ iV_X9_advance g_X6_71) (fx_an)))))))⟩ d_X6_readUnit kx44_k
-- X6_readTerm 1 i ('c', 5)
def kx45_c : fx_C := ([.inr (.inr 2), .inl (5, 5)], [], [(some (.inl (0, 0)), [.inr (.inr 2), .inl (5, 5)], [((0, 2), .inl (1, 5))]), (some (.inl (1, 1)), [.inr (.inr 2), .inl (5, 5)], [((0, 1), .inr (.inr 9)), ((2, 6), .inr (.inr 10)), ((3, 4), .inl (1, 512)), ((3, 6), .inl (-2147483647, 30))])], [(0, 4), (0, 6), (6, 2), (6, 3), (9, 3), (9, 4), (9, 5), (9, 6), (9, 7), (1000, 17), (1000, 18)])
def kx45_a : List fx_N := [(12, [(0, .inr (.inr 2)), (1, .inl (5, 5)), (2, .inl (0, 1600))], [((0, 1), .inr (.inr 9)), ((3, 6), .inr (.inr 10)), ((4, 4), .inl (1, 512)), ((4, 6), .inl (-2147483647, 30))], [(0, 0), (1, 2), (0, 0)], [(0, 0), (1, 1)])]
def kx45_s : List fx_D := []
def kx45_x : fx_X := ([], [(12, 6, 0), (21, 6, 1), (38, 9, 4), (116, 10, 6)], [], [], [], [(2, 159, 6, kx44_c), (26, 162, 1000, kx28_c), (44, 71, 9, kx16_c), (49, 159, 6, kx44_c), (66, 144, 0, kx26_c)])
set_option maxRecDepth 100000 in
theorem kx45_k : fx_chk TX 4 kx45_c 3 kx45_x t_X6_readTerm kx45_a kx45_s 30 = true := by decide +kernel
set_option maxRecDepth 100000 in
theorem kx45 {l : Launch} {E : (Nat → Prop) → State → Prop} {ad : List Nat} {D : va_G} {gs : List Nat} {cy : Nat → ClassId} (h : fxX E D cy) : fx_Met l yX6_readTerm (.code yX6_readTerm cX6_readTerm 4 (some .boolean) :: wsL_law) ({ frames := 20, cells := 0, slots := 0, locals := 444 }) E (gs, TX, cy, fun _ => True) ad D classes kx45_c :=
  fx_sound (x := kx45_x) (tb := t_X6_readTerm) (an := kx45_a) (sp := kx45_s) (rk := 3) 30 h.1 (fun _ _ _ _ _ _ => trivial) (fun _ _ _ _ _ _ => trivial) (ht_tys cy) (by decide) rfl ⟨fx_an, (fx_ac fl_X6_12 (fx_ac fl_X6_21 (fx_ac fl_X6_38 (fx_ac fl_X6_116 (fx_an))))), fx_an, fx_an, fx_an, (fx_ac (ev_V (kx44 h) (by decide) rfl ⟨by decide, by decide⟩ iV_X6_readUnit g_X6_159) (fx_ac (ev_S (kx28 h) ⟨by decide, by decide⟩ iS_X6_isTermSign g_X6_162) (fx_ac (ev_V (kx16 h) (by decide) rfl ⟨by decide, by decide⟩ iV_X9_advance g_X6_71) (fx_ac (ev_V (kx44 h) (by decide) rfl ⟨by decide, by decide⟩ iV_X6_readUnit g_X6_159) (fx_ac (ev_V (kx26 h) (by decide) rfl ⟨by decide, by decide⟩ iV_X0_add g_X6_144) (fx_an))))))⟩ d_X6_readTerm kx45_k
-- X6_readSum 1 i ('c', 5)
def kx46_c : fx_C := ([.inr (.inr 2), .inl (5, 5)], [], [(some (.inl (0, 0)), [.inr (.inr 2), .inl (5, 5)], [((0, 2), .inl (1, 5))]), (some (.inl (1, 1)), [.inr (.inr 2), .inl (5, 5)], [((0, 1), .inr (.inr 9)), ((2, 6), .inr (.inr 10)), ((3, 4), .inl (1, 512)), ((3, 6), .inl (-2147483647, 30))])], [(0, 4), (0, 6), (6, 2), (6, 3), (9, 3), (9, 4), (9, 5), (9, 6), (9, 7), (1000, 17), (1000, 18)])
def kx46_a : List fx_N := [(12, [(0, .inr (.inr 2)), (1, .inl (5, 5)), (2, .inl (0, 1600))], [((0, 1), .inr (.inr 9)), ((3, 6), .inr (.inr 10)), ((4, 4), .inl (1, 512)), ((4, 6), .inl (-2147483647, 30))], [(0, 0), (1, 2), (0, 0)], [(0, 0), (1, 1)])]
def kx46_s : List fx_D := []
def kx46_x : fx_X := ([], [(12, 6, 0), (21, 6, 1), (38, 9, 4), (116, 10, 6)], [], [], [], [(2, 156, 6, kx45_c), (55, 71, 9, kx16_c), (60, 156, 6, kx45_c), (77, 144, 0, kx26_c)])
set_option maxRecDepth 100000 in
theorem kx46_k : fx_chk TX 4 kx46_c 3 kx46_x t_X6_readSum kx46_a kx46_s 35 = true := by decide +kernel
set_option maxRecDepth 100000 in
theorem kx46 {l : Launch} {E : (Nat → Prop) → State → Prop} {ad : List Nat} {D : va_G} {gs : List Nat} {cy : Nat → ClassId} (h : fxX E D cy) : fx_Met l yX6_readSum (.code yX6_readSum cX6_readSum 4 (some .boolean) :: wsL_law) ({ frames := 21, cells := 0, slots := 0, locals := 467 }) E (gs, TX, cy, fun _ => True) ad D classes kx46_c :=
  fx_sound (x := kx46_x) (tb := t_X6_readSum) (an := kx46_a) (sp := kx46_s) (rk := 3) 35 h.1 (fun _ _ _ _ _ _ => trivial) (fun _ _ _ _ _ _ => trivial) (ht_tys cy) (by decide) rfl ⟨fx_an, (fx_ac fl_X6_12 (fx_ac fl_X6_21 (fx_ac fl_X6_38 (fx_ac fl_X6_116 (fx_an))))), fx_an, fx_an, fx_an, (fx_ac (ev_V (kx45 h) (by decide) rfl ⟨by decide, by decide⟩ iV_X6_readTerm g_X6_156) (fx_ac (ev_V (kx16 h) (by decide) rfl ⟨by decide, by decide⟩ iV_X9_advance g_X6_71) (fx_ac (ev_V (kx45 h) (by decide) rfl ⟨by decide, by decide⟩ iV_X6_readTerm g_X6_156) (fx_ac (ev_V (kx26 h) (by decide) rfl ⟨by decide, by decide⟩ iV_X0_add g_X6_144) (fx_an)))))⟩ d_X6_readSum kx46_k
-- X6_readOne 1 i ('c', 5)
def kx47_c : fx_C := ([.inr (.inr 2), .inl (5, 5)], [], [(some (.inl (0, 0)), [.inr (.inr 2), .inl (5, 5)], [((0, 2), .inl (1, 5))]), (some (.inl (1, 1)), [.inr (.inr 2), .inl (5, 5)], [((0, 1), .inr (.inr 9)), ((2, 6), .inr (.inr 10)), ((3, 4), .inl (1, 512)), ((3, 6), .inl (-2147483647, 30))])], [(0, 4), (0, 6), (6, 2), (6, 3), (9, 3), (9, 4), (9, 5), (9, 6), (9, 7), (1000, 17), (1000, 18)])
def kx47_a : List fx_N := []
def kx47_s : List fx_D := []
def kx47_x : fx_X := ([], [(12, 6, 0), (21, 6, 1), (38, 9, 4), (116, 10, 6)], [], [], [], [(15, 150, 6, kx40_c), (21, 153, 6, kx46_c), (61, 71, 9, kx16_c), (66, 153, 6, kx46_c), (83, 144, 0, kx26_c)])
set_option maxRecDepth 100000 in
theorem kx47_k : fx_chk TX 3 kx47_c 3 kx47_x t_X6_readOne kx47_a kx47_s 39 = true := by decide +kernel
set_option maxRecDepth 100000 in
theorem kx47 {l : Launch} {E : (Nat → Prop) → State → Prop} {ad : List Nat} {D : va_G} {gs : List Nat} {cy : Nat → ClassId} (h : fxX E D cy) : fx_Met l yX6_readOne (.code yX6_readOne cX6_readOne 3 (some .boolean) :: wsL_law) ({ frames := 22, cells := 0, slots := 0, locals := 490 }) E (gs, TX, cy, fun _ => True) ad D classes kx47_c :=
  fx_sound (x := kx47_x) (tb := t_X6_readOne) (an := kx47_a) (sp := kx47_s) (rk := 3) 39 h.1 (fun _ _ _ _ _ _ => trivial) (fun _ _ _ _ _ _ => trivial) (ht_tys cy) (by decide) rfl ⟨fx_an, (fx_ac fl_X6_12 (fx_ac fl_X6_21 (fx_ac fl_X6_38 (fx_ac fl_X6_116 (fx_an))))), fx_an, fx_an, fx_an, (fx_ac (ev_V (kx40 h) (by decide) rfl ⟨by decide, by decide⟩ iV_X6_readNot g_X6_150) (fx_ac (ev_V (kx46 h) (by decide) rfl ⟨by decide, by decide⟩ iV_X6_readSum g_X6_153) (fx_ac (ev_V (kx16 h) (by decide) rfl ⟨by decide, by decide⟩ iV_X9_advance g_X6_71) (fx_ac (ev_V (kx46 h) (by decide) rfl ⟨by decide, by decide⟩ iV_X6_readSum g_X6_153) (fx_ac (ev_V (kx26 h) (by decide) rfl ⟨by decide, by decide⟩ iV_X0_add g_X6_144) (fx_an))))))⟩ d_X6_readOne kx47_k
-- X6_readNot 1 i ('c', 4)
def kx48_c : fx_C := ([.inr (.inr 2), .inl (4, 4)], [], [(some (.inl (1, 1)), [.inr (.inr 2), .inl (4, 4)], [((0, 1), .inr (.inr 9)), ((2, 6), .inr (.inr 10)), ((3, 4), .inl (1, 512)), ((3, 6), .inl (-2147483647, 30))]), (some (.inl (0, 0)), [.inr (.inr 2), .inl (4, 4)], [((0, 2), .inl (1, 5))])], [(0, 4), (0, 6), (6, 2), (6, 3), (9, 3), (9, 4), (9, 5), (9, 6), (9, 7), (1000, 17), (1000, 18)])
def kx48_a : List fx_N := []
def kx48_s : List fx_D := []
def kx48_x : fx_X := ([], [(12, 6, 0), (21, 6, 1), (116, 10, 6)], [], [], [], [(15, 71, 9, kx16_c), (22, 147, 6, kx47_c), (41, 144, 0, kx26_c)])
set_option maxRecDepth 100000 in
theorem kx48_k : fx_chk TX 2 kx48_c 3 kx48_x t_X6_readNot kx48_a kx48_s 22 = true := by decide +kernel
set_option maxRecDepth 100000 in
theorem kx48 {l : Launch} {E : (Nat → Prop) → State → Prop} {ad : List Nat} {D : va_G} {gs : List Nat} {cy : Nat → ClassId} (h : fxX E D cy) : fx_Met l yX6_readNot (.code yX6_readNot cX6_readNot 2 (some .boolean) :: wsL_law) ({ frames := 23, cells := 0, slots := 0, locals := 512 }) E (gs, TX, cy, fun _ => True) ad D classes kx48_c :=
  fx_sound (x := kx48_x) (tb := t_X6_readNot) (an := kx48_a) (sp := kx48_s) (rk := 3) 22 h.1 (fun _ _ _ _ _ _ => trivial) (fun _ _ _ _ _ _ => trivial) (ht_tys cy) (by decide) rfl ⟨fx_an, (fx_ac fl_X6_12 (fx_ac fl_X6_21 (fx_ac fl_X6_116 (fx_an)))), fx_an, fx_an, fx_an, (fx_ac (ev_V (kx16 h) (by decide) rfl ⟨by decide, by decide⟩ iV_X9_advance g_X6_71) (fx_ac (ev_V (kx47 h) (by decide) rfl ⟨by decide, by decide⟩ iV_X6_readOne g_X6_147) (fx_ac (ev_V (kx26 h) (by decide) rfl ⟨by decide, by decide⟩ iV_X0_add g_X6_144) (fx_an))))⟩ d_X6_readNot kx48_k
-- X6_readBoth 1 i ('c', 5)
def kx49_c : fx_C := ([.inr (.inr 2), .inl (5, 5)], [], [(some (.inl (0, 0)), [.inr (.inr 2), .inl (5, 5)], [((0, 2), .inl (1, 5))]), (some (.inl (1, 1)), [.inr (.inr 2), .inl (5, 5)], [((0, 1), .inr (.inr 9)), ((2, 6), .inr (.inr 10)), ((3, 4), .inl (1, 512)), ((3, 6), .inl (-2147483647, 30))])], [(0, 4), (0, 6), (6, 2), (6, 3), (9, 3), (9, 4), (9, 5), (9, 6), (9, 7), (1000, 17), (1000, 18)])
def kx49_a : List fx_N := [(12, [(0, .inr (.inr 2)), (1, .inl (5, 5)), (2, .inl (0, 1600))], [((0, 1), .inr (.inr 9)), ((3, 6), .inr (.inr 10)), ((4, 4), .inl (1, 512)), ((4, 6), .inl (-2147483647, 30))], [(0, 0), (1, 2), (0, 0)], [(0, 0), (1, 1)])]
def kx49_s : List fx_D := []
def kx49_x : fx_X := ([], [(12, 6, 0), (21, 6, 1), (38, 9, 4), (116, 10, 6)], [], [], [], [(2, 147, 6, kx47_c), (36, 71, 9, kx16_c), (41, 147, 6, kx47_c), (60, 144, 0, kx26_c)])
set_option maxRecDepth 100000 in
theorem kx49_k : fx_chk TX 3 kx49_c 3 kx49_x t_X6_readBoth kx49_a kx49_s 26 = true := by decide +kernel
set_option maxRecDepth 100000 in
theorem kx49 {l : Launch} {E : (Nat → Prop) → State → Prop} {ad : List Nat} {D : va_G} {gs : List Nat} {cy : Nat → ClassId} (h : fxX E D cy) : fx_Met l yX6_readBoth (.code yX6_readBoth cX6_readBoth 3 (some .boolean) :: wsL_law) ({ frames := 23, cells := 0, slots := 0, locals := 512 }) E (gs, TX, cy, fun _ => True) ad D classes kx49_c :=
  fx_sound (x := kx49_x) (tb := t_X6_readBoth) (an := kx49_a) (sp := kx49_s) (rk := 3) 26 h.1 (fun _ _ _ _ _ _ => trivial) (fun _ _ _ _ _ _ => trivial) (ht_tys cy) (by decide) rfl ⟨fx_an, (fx_ac fl_X6_12 (fx_ac fl_X6_21 (fx_ac fl_X6_38 (fx_ac fl_X6_116 (fx_an))))), fx_an, fx_an, fx_an, (fx_ac (ev_V (kx47 h) (by decide) rfl ⟨by decide, by decide⟩ iV_X6_readOne g_X6_147) (fx_ac (ev_V (kx16 h) (by decide) rfl ⟨by decide, by decide⟩ iV_X9_advance g_X6_71) (fx_ac (ev_V (kx47 h) (by decide) rfl ⟨by decide, by decide⟩ iV_X6_readOne g_X6_147) (fx_ac (ev_V (kx26 h) (by decide) rfl ⟨by decide, by decide⟩ iV_X0_add g_X6_144) (fx_an)))))⟩ d_X6_readBoth kx49_k
-- X6_readEither 1 i ('c', 5)
def kx50_c : fx_C := ([.inr (.inr 2), .inl (5, 5)], [], [(some (.inl (0, 0)), [.inr (.inr 2), .inl (5, 5)], [((0, 2), .inl (1, 5))]), (some (.inl (1, 1)), [.inr (.inr 2), .inl (5, 5)], [((0, 1), .inr (.inr 9)), ((2, 6), .inr (.inr 10)), ((3, 4), .inl (1, 512)), ((3, 6), .inl (-2147483647, 30))])], [(0, 4), (0, 6), (6, 2), (6, 3), (9, 3), (9, 4), (9, 5), (9, 6), (9, 7), (1000, 17), (1000, 18)])
def kx50_a : List fx_N := [(12, [(0, .inr (.inr 2)), (1, .inl (5, 5)), (2, .inl (0, 1600))], [((0, 1), .inr (.inr 9)), ((3, 6), .inr (.inr 10)), ((4, 4), .inl (1, 512)), ((4, 6), .inl (-2147483647, 30))], [(0, 0), (1, 2), (0, 0)], [(0, 0), (1, 1)])]
def kx50_s : List fx_D := []
def kx50_x : fx_X := ([], [(12, 6, 0), (21, 6, 1), (38, 9, 4), (116, 10, 6)], [], [], [], [(2, 141, 6, kx49_c), (36, 71, 9, kx16_c), (41, 141, 6, kx49_c), (60, 144, 0, kx26_c)])
set_option maxRecDepth 100000 in
theorem kx50_k : fx_chk TX 3 kx50_c 3 kx50_x t_X6_readEither kx50_a kx50_s 26 = true := by decide +kernel
set_option maxRecDepth 100000 in
theorem kx50 {l : Launch} {E : (Nat → Prop) → State → Prop} {ad : List Nat} {D : va_G} {gs : List Nat} {cy : Nat → ClassId} (h : fxX E D cy) : fx_Met l yX6_readEither (.code yX6_readEither cX6_readEither 3 (some .boolean) :: wsL_law) ({ frames := 24, cells := 0, slots := 0, locals := 534 }) E (gs, TX, cy, fun _ => True) ad D classes kx50_c :=
  fx_sound (x := kx50_x) (tb := t_X6_readEither) (an := kx50_a) (sp := kx50_s) (rk := 3) 26 h.1 (fun _ _ _ _ _ _ => trivial) (fun _ _ _ _ _ _ => trivial) (ht_tys cy) (by decide) rfl ⟨fx_an, (fx_ac fl_X6_12 (fx_ac fl_X6_21 (fx_ac fl_X6_38 (fx_ac fl_X6_116 (fx_an))))), fx_an, fx_an, fx_an, (fx_ac (ev_V (kx49 h) (by decide) rfl ⟨by decide, by decide⟩ iV_X6_readBoth g_X6_141) (fx_ac (ev_V (kx16 h) (by decide) rfl ⟨by decide, by decide⟩ iV_X9_advance g_X6_71) (fx_ac (ev_V (kx49 h) (by decide) rfl ⟨by decide, by decide⟩ iV_X6_readBoth g_X6_141) (fx_ac (ev_V (kx26 h) (by decide) rfl ⟨by decide, by decide⟩ iV_X0_add g_X6_144) (fx_an)))))⟩ d_X6_readEither kx50_k
-- X6_readBracket 1 i ('c', 4)
def kx51_c : fx_C := ([.inr (.inr 2), .inl (4, 4)], [], [(some (.inl (1, 1)), [.inr (.inr 2), .inl (4, 4)], [((0, 1), .inr (.inr 9)), ((2, 6), .inr (.inr 10)), ((3, 4), .inl (1, 512)), ((3, 6), .inl (-2147483647, 30))]), (some (.inl (0, 0)), [.inr (.inr 2), .inl (4, 4)], [((0, 2), .inl (1, 5))])], [(0, 4), (0, 6), (6, 2), (6, 3), (9, 3), (9, 4), (9, 5), (9, 6), (9, 7), (1000, 17), (1000, 18)])
def kx51_a : List fx_N := []
def kx51_s : List fx_D := []
def kx51_x : fx_X := ([], [(12, 6, 0), (21, 6, 1), (116, 10, 6), (165, 0, 6)], [(165, 0, 6, 0)], [], [], [(31, 71, 9, kx16_c), (38, 126, 6, kx50_c), (47, 89, 6, kx21_c)])
set_option maxRecDepth 100000 in
theorem kx51_k : fx_chk TX 2 kx51_c 3 kx51_x t_X6_readBracket kx51_a kx51_s 29 = true := by decide +kernel
set_option maxRecDepth 100000 in
theorem kx51 {l : Launch} {E : (Nat → Prop) → State → Prop} {ad : List Nat} {D : va_G} {gs : List Nat} {cy : Nat → ClassId} (h : fxX E D cy) : fx_Met l yX6_readBracket (.code yX6_readBracket cX6_readBracket 2 (some .boolean) :: wsL_law) ({ frames := 25, cells := 0, slots := 0, locals := 556 }) E (gs, TX, cy, fun _ => True) ad D classes kx51_c :=
  fx_sound (x := kx51_x) (tb := t_X6_readBracket) (an := kx51_a) (sp := kx51_s) (rk := 3) 29 h.1 (fun _ _ _ _ _ _ => trivial) (fun _ _ _ _ _ _ => trivial) (ht_tys cy) (by decide) rfl ⟨fx_an, (fx_ac fl_X6_12 (fx_ac fl_X6_21 (fx_ac fl_X6_116 (fx_ac fl_X6_165 (fx_an))))), (fx_ac pl_X6_165 (fx_an)), fx_an, fx_an, (fx_ac (ev_V (kx16 h) (by decide) rfl ⟨by decide, by decide⟩ iV_X9_advance g_X6_71) (fx_ac (ev_V (kx50 h) (by decide) rfl ⟨by decide, by decide⟩ iV_X6_readEither g_X6_126) (fx_ac (ev_V (kx21 h) (by decide) rfl ⟨by decide, by decide⟩ iV_X6_pass g_X6_89) (fx_an))))⟩ d_X6_readBracket kx51_k
-- X6_readUnit 1 i ('c', 4)
def kx52_c : fx_C := ([.inr (.inr 2), .inl (4, 4)], [], [(some (.inl (0, 0)), [.inr (.inr 2), .inl (4, 4)], [((0, 2), .inl (1, 5))]), (some (.inl (1, 1)), [.inr (.inr 2), .inl (4, 4)], [((0, 1), .inr (.inr 9)), ((2, 6), .inr (.inr 10)), ((3, 4), .inl (1, 512)), ((3, 6), .inl (-2147483647, 30))])], [(0, 4), (0, 6), (6, 2), (6, 3), (9, 3), (9, 4), (9, 5), (9, 6), (9, 7), (1000, 17), (1000, 18)])
def kx52_a : List fx_N := []
def kx52_s : List fx_D := []
def kx52_x : fx_X := ([], [(12, 6, 0), (21, 6, 1), (38, 9, 4), (96, 9, 6), (116, 10, 6), (165, 0, 6)], [(165, 0, 6, 0)], [], [], [(24, 65, 6, kx19_c), (36, 168, 6, kx51_c), (47, 171, 1000, kx25_c), (54, 65, 6, kx19_c), (89, 144, 0, kx26_c), (96, 71, 9, kx16_c)])
set_option maxRecDepth 100000 in
theorem kx52_k : fx_chk TX 3 kx52_c 3 kx52_x t_X6_readUnit kx52_a kx52_s 42 = true := by decide +kernel
set_option maxRecDepth 100000 in
theorem kx52 {l : Launch} {E : (Nat → Prop) → State → Prop} {ad : List Nat} {D : va_G} {gs : List Nat} {cy : Nat → ClassId} (h : fxX E D cy) : fx_Met l yX6_readUnit (.code yX6_readUnit cX6_readUnit 3 (some .boolean) :: wsL_law) ({ frames := 26, cells := 0, slots := 0, locals := 577 }) E (gs, TX, cy, fun _ => True) ad D classes kx52_c :=
  fx_sound (x := kx52_x) (tb := t_X6_readUnit) (an := kx52_a) (sp := kx52_s) (rk := 3) 42 h.1 (fun _ _ _ _ _ _ => trivial) (fun _ _ _ _ _ _ => trivial) (ht_tys cy) (by decide) rfl ⟨fx_an, (fx_ac fl_X6_12 (fx_ac fl_X6_21 (fx_ac fl_X6_38 (fx_ac fl_X6_96 (fx_ac fl_X6_116 (fx_ac fl_X6_165 (fx_an))))))), (fx_ac pl_X6_165 (fx_an)), fx_an, fx_an, (fx_ac (ev_V (kx19 h) (by decide) rfl ⟨by decide, by decide⟩ iV_X6_refuse g_X6_65) (fx_ac (ev_V (kx51 h) (by decide) rfl ⟨by decide, by decide⟩ iV_X6_readBracket g_X6_168) (fx_ac (ev_S (kx25 h) ⟨by decide, by decide⟩ iS_X9_isKnownKey g_X6_171) (fx_ac (ev_V (kx19 h) (by decide) rfl ⟨by decide, by decide⟩ iV_X6_refuse g_X6_65) (fx_ac (ev_V (kx26 h) (by decide) rfl ⟨by decide, by decide⟩ iV_X0_add g_X6_144) (fx_ac (ev_V (kx16 h) (by decide) rfl ⟨by decide, by decide⟩ iV_X9_advance g_X6_71) (fx_an)))))))⟩ d_X6_readUnit kx52_k
-- X6_readTerm 1 i ('c', 4)
def kx53_c : fx_C := ([.inr (.inr 2), .inl (4, 4)], [], [(some (.inl (0, 0)), [.inr (.inr 2), .inl (4, 4)], [((0, 2), .inl (1, 5))]), (some (.inl (1, 1)), [.inr (.inr 2), .inl (4, 4)], [((0, 1), .inr (.inr 9)), ((2, 6), .inr (.inr 10)), ((3, 4), .inl (1, 512)), ((3, 6), .inl (-2147483647, 30))])], [(0, 4), (0, 6), (6, 2), (6, 3), (9, 3), (9, 4), (9, 5), (9, 6), (9, 7), (1000, 17), (1000, 18)])
def kx53_a : List fx_N := [(12, [(0, .inr (.inr 2)), (1, .inl (4, 4)), (2, .inl (0, 1600))], [((0, 1), .inr (.inr 9)), ((3, 6), .inr (.inr 10)), ((4, 4), .inl (1, 512)), ((4, 6), .inl (-2147483647, 30))], [(0, 0), (1, 2), (0, 0)], [(0, 0), (1, 1)])]
def kx53_s : List fx_D := []
def kx53_x : fx_X := ([], [(12, 6, 0), (21, 6, 1), (38, 9, 4), (116, 10, 6)], [], [], [], [(2, 159, 6, kx52_c), (26, 162, 1000, kx28_c), (44, 71, 9, kx16_c), (49, 159, 6, kx52_c), (66, 144, 0, kx26_c)])
set_option maxRecDepth 100000 in
theorem kx53_k : fx_chk TX 4 kx53_c 3 kx53_x t_X6_readTerm kx53_a kx53_s 30 = true := by decide +kernel
set_option maxRecDepth 100000 in
theorem kx53 {l : Launch} {E : (Nat → Prop) → State → Prop} {ad : List Nat} {D : va_G} {gs : List Nat} {cy : Nat → ClassId} (h : fxX E D cy) : fx_Met l yX6_readTerm (.code yX6_readTerm cX6_readTerm 4 (some .boolean) :: wsL_law) ({ frames := 27, cells := 0, slots := 0, locals := 599 }) E (gs, TX, cy, fun _ => True) ad D classes kx53_c :=
  fx_sound (x := kx53_x) (tb := t_X6_readTerm) (an := kx53_a) (sp := kx53_s) (rk := 3) 30 h.1 (fun _ _ _ _ _ _ => trivial) (fun _ _ _ _ _ _ => trivial) (ht_tys cy) (by decide) rfl ⟨fx_an, (fx_ac fl_X6_12 (fx_ac fl_X6_21 (fx_ac fl_X6_38 (fx_ac fl_X6_116 (fx_an))))), fx_an, fx_an, fx_an, (fx_ac (ev_V (kx52 h) (by decide) rfl ⟨by decide, by decide⟩ iV_X6_readUnit g_X6_159) (fx_ac (ev_S (kx28 h) ⟨by decide, by decide⟩ iS_X6_isTermSign g_X6_162) (fx_ac (ev_V (kx16 h) (by decide) rfl ⟨by decide, by decide⟩ iV_X9_advance g_X6_71) (fx_ac (ev_V (kx52 h) (by decide) rfl ⟨by decide, by decide⟩ iV_X6_readUnit g_X6_159) (fx_ac (ev_V (kx26 h) (by decide) rfl ⟨by decide, by decide⟩ iV_X0_add g_X6_144) (fx_an))))))⟩ d_X6_readTerm kx53_k
-- X6_readSum 1 i ('c', 4)
def kx54_c : fx_C := ([.inr (.inr 2), .inl (4, 4)], [], [(some (.inl (0, 0)), [.inr (.inr 2), .inl (4, 4)], [((0, 2), .inl (1, 5))]), (some (.inl (1, 1)), [.inr (.inr 2), .inl (4, 4)], [((0, 1), .inr (.inr 9)), ((2, 6), .inr (.inr 10)), ((3, 4), .inl (1, 512)), ((3, 6), .inl (-2147483647, 30))])], [(0, 4), (0, 6), (6, 2), (6, 3), (9, 3), (9, 4), (9, 5), (9, 6), (9, 7), (1000, 17), (1000, 18)])
def kx54_a : List fx_N := [(12, [(0, .inr (.inr 2)), (1, .inl (4, 4)), (2, .inl (0, 1600))], [((0, 1), .inr (.inr 9)), ((3, 6), .inr (.inr 10)), ((4, 4), .inl (1, 512)), ((4, 6), .inl (-2147483647, 30))], [(0, 0), (1, 2), (0, 0)], [(0, 0), (1, 1)])]
def kx54_s : List fx_D := []
def kx54_x : fx_X := ([], [(12, 6, 0), (21, 6, 1), (38, 9, 4), (116, 10, 6)], [], [], [], [(2, 156, 6, kx53_c), (55, 71, 9, kx16_c), (60, 156, 6, kx53_c), (77, 144, 0, kx26_c)])
set_option maxRecDepth 100000 in
theorem kx54_k : fx_chk TX 4 kx54_c 3 kx54_x t_X6_readSum kx54_a kx54_s 35 = true := by decide +kernel
set_option maxRecDepth 100000 in
theorem kx54 {l : Launch} {E : (Nat → Prop) → State → Prop} {ad : List Nat} {D : va_G} {gs : List Nat} {cy : Nat → ClassId} (h : fxX E D cy) : fx_Met l yX6_readSum (.code yX6_readSum cX6_readSum 4 (some .boolean) :: wsL_law) ({ frames := 28, cells := 0, slots := 0, locals := 622 }) E (gs, TX, cy, fun _ => True) ad D classes kx54_c :=
  fx_sound (x := kx54_x) (tb := t_X6_readSum) (an := kx54_a) (sp := kx54_s) (rk := 3) 35 h.1 (fun _ _ _ _ _ _ => trivial) (fun _ _ _ _ _ _ => trivial) (ht_tys cy) (by decide) rfl ⟨fx_an, (fx_ac fl_X6_12 (fx_ac fl_X6_21 (fx_ac fl_X6_38 (fx_ac fl_X6_116 (fx_an))))), fx_an, fx_an, fx_an, (fx_ac (ev_V (kx53 h) (by decide) rfl ⟨by decide, by decide⟩ iV_X6_readTerm g_X6_156) (fx_ac (ev_V (kx16 h) (by decide) rfl ⟨by decide, by decide⟩ iV_X9_advance g_X6_71) (fx_ac (ev_V (kx53 h) (by decide) rfl ⟨by decide, by decide⟩ iV_X6_readTerm g_X6_156) (fx_ac (ev_V (kx26 h) (by decide) rfl ⟨by decide, by decide⟩ iV_X0_add g_X6_144) (fx_an)))))⟩ d_X6_readSum kx54_k
-- X6_readOne 1 i ('c', 4)
def kx55_c : fx_C := ([.inr (.inr 2), .inl (4, 4)], [], [(some (.inl (0, 0)), [.inr (.inr 2), .inl (4, 4)], [((0, 2), .inl (1, 5))]), (some (.inl (1, 1)), [.inr (.inr 2), .inl (4, 4)], [((0, 1), .inr (.inr 9)), ((2, 6), .inr (.inr 10)), ((3, 4), .inl (1, 512)), ((3, 6), .inl (-2147483647, 30))])], [(0, 4), (0, 6), (6, 2), (6, 3), (9, 3), (9, 4), (9, 5), (9, 6), (9, 7), (1000, 17), (1000, 18)])
def kx55_a : List fx_N := []
def kx55_s : List fx_D := []
def kx55_x : fx_X := ([], [(12, 6, 0), (21, 6, 1), (38, 9, 4), (116, 10, 6)], [], [], [], [(15, 150, 6, kx48_c), (21, 153, 6, kx54_c), (61, 71, 9, kx16_c), (66, 153, 6, kx54_c), (83, 144, 0, kx26_c)])
set_option maxRecDepth 100000 in
theorem kx55_k : fx_chk TX 3 kx55_c 3 kx55_x t_X6_readOne kx55_a kx55_s 39 = true := by decide +kernel
set_option maxRecDepth 100000 in
theorem kx55 {l : Launch} {E : (Nat → Prop) → State → Prop} {ad : List Nat} {D : va_G} {gs : List Nat} {cy : Nat → ClassId} (h : fxX E D cy) : fx_Met l yX6_readOne (.code yX6_readOne cX6_readOne 3 (some .boolean) :: wsL_law) ({ frames := 29, cells := 0, slots := 0, locals := 645 }) E (gs, TX, cy, fun _ => True) ad D classes kx55_c :=
  fx_sound (x := kx55_x) (tb := t_X6_readOne) (an := kx55_a) (sp := kx55_s) (rk := 3) 39 h.1 (fun _ _ _ _ _ _ => trivial) (fun _ _ _ _ _ _ => trivial) (ht_tys cy) (by decide) rfl ⟨fx_an, (fx_ac fl_X6_12 (fx_ac fl_X6_21 (fx_ac fl_X6_38 (fx_ac fl_X6_116 (fx_an))))), fx_an, fx_an, fx_an, (fx_ac (ev_V (kx48 h) (by decide) rfl ⟨by decide, by decide⟩ iV_X6_readNot g_X6_150) (fx_ac (ev_V (kx54 h) (by decide) rfl ⟨by decide, by decide⟩ iV_X6_readSum g_X6_153) (fx_ac (ev_V (kx16 h) (by decide) rfl ⟨by decide, by decide⟩ iV_X9_advance g_X6_71) (fx_ac (ev_V (kx54 h) (by decide) rfl ⟨by decide, by decide⟩ iV_X6_readSum g_X6_153) (fx_ac (ev_V (kx26 h) (by decide) rfl ⟨by decide, by decide⟩ iV_X0_add g_X6_144) (fx_an))))))⟩ d_X6_readOne kx55_k
-- X6_readNot 1 i ('c', 3)
def kx56_c : fx_C := ([.inr (.inr 2), .inl (3, 3)], [], [(some (.inl (1, 1)), [.inr (.inr 2), .inl (3, 3)], [((0, 1), .inr (.inr 9)), ((2, 6), .inr (.inr 10)), ((3, 4), .inl (1, 512)), ((3, 6), .inl (-2147483647, 30))]), (some (.inl (0, 0)), [.inr (.inr 2), .inl (3, 3)], [((0, 2), .inl (1, 5))])], [(0, 4), (0, 6), (6, 2), (6, 3), (9, 3), (9, 4), (9, 5), (9, 6), (9, 7), (1000, 17), (1000, 18)])
def kx56_a : List fx_N := []
def kx56_s : List fx_D := []
def kx56_x : fx_X := ([], [(12, 6, 0), (21, 6, 1), (116, 10, 6)], [], [], [], [(15, 71, 9, kx16_c), (22, 147, 6, kx55_c), (41, 144, 0, kx26_c)])
set_option maxRecDepth 100000 in
theorem kx56_k : fx_chk TX 2 kx56_c 3 kx56_x t_X6_readNot kx56_a kx56_s 22 = true := by decide +kernel
set_option maxRecDepth 100000 in
theorem kx56 {l : Launch} {E : (Nat → Prop) → State → Prop} {ad : List Nat} {D : va_G} {gs : List Nat} {cy : Nat → ClassId} (h : fxX E D cy) : fx_Met l yX6_readNot (.code yX6_readNot cX6_readNot 2 (some .boolean) :: wsL_law) ({ frames := 30, cells := 0, slots := 0, locals := 667 }) E (gs, TX, cy, fun _ => True) ad D classes kx56_c :=
  fx_sound (x := kx56_x) (tb := t_X6_readNot) (an := kx56_a) (sp := kx56_s) (rk := 3) 22 h.1 (fun _ _ _ _ _ _ => trivial) (fun _ _ _ _ _ _ => trivial) (ht_tys cy) (by decide) rfl ⟨fx_an, (fx_ac fl_X6_12 (fx_ac fl_X6_21 (fx_ac fl_X6_116 (fx_an)))), fx_an, fx_an, fx_an, (fx_ac (ev_V (kx16 h) (by decide) rfl ⟨by decide, by decide⟩ iV_X9_advance g_X6_71) (fx_ac (ev_V (kx55 h) (by decide) rfl ⟨by decide, by decide⟩ iV_X6_readOne g_X6_147) (fx_ac (ev_V (kx26 h) (by decide) rfl ⟨by decide, by decide⟩ iV_X0_add g_X6_144) (fx_an))))⟩ d_X6_readNot kx56_k
-- X6_readBoth 1 i ('c', 4)
def kx57_c : fx_C := ([.inr (.inr 2), .inl (4, 4)], [], [(some (.inl (0, 0)), [.inr (.inr 2), .inl (4, 4)], [((0, 2), .inl (1, 5))]), (some (.inl (1, 1)), [.inr (.inr 2), .inl (4, 4)], [((0, 1), .inr (.inr 9)), ((2, 6), .inr (.inr 10)), ((3, 4), .inl (1, 512)), ((3, 6), .inl (-2147483647, 30))])], [(0, 4), (0, 6), (6, 2), (6, 3), (9, 3), (9, 4), (9, 5), (9, 6), (9, 7), (1000, 17), (1000, 18)])
def kx57_a : List fx_N := [(12, [(0, .inr (.inr 2)), (1, .inl (4, 4)), (2, .inl (0, 1600))], [((0, 1), .inr (.inr 9)), ((3, 6), .inr (.inr 10)), ((4, 4), .inl (1, 512)), ((4, 6), .inl (-2147483647, 30))], [(0, 0), (1, 2), (0, 0)], [(0, 0), (1, 1)])]
def kx57_s : List fx_D := []
def kx57_x : fx_X := ([], [(12, 6, 0), (21, 6, 1), (38, 9, 4), (116, 10, 6)], [], [], [], [(2, 147, 6, kx55_c), (36, 71, 9, kx16_c), (41, 147, 6, kx55_c), (60, 144, 0, kx26_c)])
set_option maxRecDepth 100000 in
theorem kx57_k : fx_chk TX 3 kx57_c 3 kx57_x t_X6_readBoth kx57_a kx57_s 26 = true := by decide +kernel
set_option maxRecDepth 100000 in
theorem kx57 {l : Launch} {E : (Nat → Prop) → State → Prop} {ad : List Nat} {D : va_G} {gs : List Nat} {cy : Nat → ClassId} (h : fxX E D cy) : fx_Met l yX6_readBoth (.code yX6_readBoth cX6_readBoth 3 (some .boolean) :: wsL_law) ({ frames := 30, cells := 0, slots := 0, locals := 667 }) E (gs, TX, cy, fun _ => True) ad D classes kx57_c :=
  fx_sound (x := kx57_x) (tb := t_X6_readBoth) (an := kx57_a) (sp := kx57_s) (rk := 3) 26 h.1 (fun _ _ _ _ _ _ => trivial) (fun _ _ _ _ _ _ => trivial) (ht_tys cy) (by decide) rfl ⟨fx_an, (fx_ac fl_X6_12 (fx_ac fl_X6_21 (fx_ac fl_X6_38 (fx_ac fl_X6_116 (fx_an))))), fx_an, fx_an, fx_an, (fx_ac (ev_V (kx55 h) (by decide) rfl ⟨by decide, by decide⟩ iV_X6_readOne g_X6_147) (fx_ac (ev_V (kx16 h) (by decide) rfl ⟨by decide, by decide⟩ iV_X9_advance g_X6_71) (fx_ac (ev_V (kx55 h) (by decide) rfl ⟨by decide, by decide⟩ iV_X6_readOne g_X6_147) (fx_ac (ev_V (kx26 h) (by decide) rfl ⟨by decide, by decide⟩ iV_X0_add g_X6_144) (fx_an)))))⟩ d_X6_readBoth kx57_k
-- X6_readEither 1 i ('c', 4)
def kx58_c : fx_C := ([.inr (.inr 2), .inl (4, 4)], [], [(some (.inl (0, 0)), [.inr (.inr 2), .inl (4, 4)], [((0, 2), .inl (1, 5))]), (some (.inl (1, 1)), [.inr (.inr 2), .inl (4, 4)], [((0, 1), .inr (.inr 9)), ((2, 6), .inr (.inr 10)), ((3, 4), .inl (1, 512)), ((3, 6), .inl (-2147483647, 30))])], [(0, 4), (0, 6), (6, 2), (6, 3), (9, 3), (9, 4), (9, 5), (9, 6), (9, 7), (1000, 17), (1000, 18)])
def kx58_a : List fx_N := [(12, [(0, .inr (.inr 2)), (1, .inl (4, 4)), (2, .inl (0, 1600))], [((0, 1), .inr (.inr 9)), ((3, 6), .inr (.inr 10)), ((4, 4), .inl (1, 512)), ((4, 6), .inl (-2147483647, 30))], [(0, 0), (1, 2), (0, 0)], [(0, 0), (1, 1)])]
def kx58_s : List fx_D := []
def kx58_x : fx_X := ([], [(12, 6, 0), (21, 6, 1), (38, 9, 4), (116, 10, 6)], [], [], [], [(2, 141, 6, kx57_c), (36, 71, 9, kx16_c), (41, 141, 6, kx57_c), (60, 144, 0, kx26_c)])
set_option maxRecDepth 100000 in
theorem kx58_k : fx_chk TX 3 kx58_c 3 kx58_x t_X6_readEither kx58_a kx58_s 26 = true := by decide +kernel
set_option maxRecDepth 100000 in
theorem kx58 {l : Launch} {E : (Nat → Prop) → State → Prop} {ad : List Nat} {D : va_G} {gs : List Nat} {cy : Nat → ClassId} (h : fxX E D cy) : fx_Met l yX6_readEither (.code yX6_readEither cX6_readEither 3 (some .boolean) :: wsL_law) ({ frames := 31, cells := 0, slots := 0, locals := 689 }) E (gs, TX, cy, fun _ => True) ad D classes kx58_c :=
  fx_sound (x := kx58_x) (tb := t_X6_readEither) (an := kx58_a) (sp := kx58_s) (rk := 3) 26 h.1 (fun _ _ _ _ _ _ => trivial) (fun _ _ _ _ _ _ => trivial) (ht_tys cy) (by decide) rfl ⟨fx_an, (fx_ac fl_X6_12 (fx_ac fl_X6_21 (fx_ac fl_X6_38 (fx_ac fl_X6_116 (fx_an))))), fx_an, fx_an, fx_an, (fx_ac (ev_V (kx57 h) (by decide) rfl ⟨by decide, by decide⟩ iV_X6_readBoth g_X6_141) (fx_ac (ev_V (kx16 h) (by decide) rfl ⟨by decide, by decide⟩ iV_X9_advance g_X6_71) (fx_ac (ev_V (kx57 h) (by decide) rfl ⟨by decide, by decide⟩ iV_X6_readBoth g_X6_141) (fx_ac (ev_V (kx26 h) (by decide) rfl ⟨by decide, by decide⟩ iV_X0_add g_X6_144) (fx_an)))))⟩ d_X6_readEither kx58_k
-- X6_readBracket 1 i ('c', 3)
def kx59_c : fx_C := ([.inr (.inr 2), .inl (3, 3)], [], [(some (.inl (1, 1)), [.inr (.inr 2), .inl (3, 3)], [((0, 1), .inr (.inr 9)), ((2, 6), .inr (.inr 10)), ((3, 4), .inl (1, 512)), ((3, 6), .inl (-2147483647, 30))]), (some (.inl (0, 0)), [.inr (.inr 2), .inl (3, 3)], [((0, 2), .inl (1, 5))])], [(0, 4), (0, 6), (6, 2), (6, 3), (9, 3), (9, 4), (9, 5), (9, 6), (9, 7), (1000, 17), (1000, 18)])
def kx59_a : List fx_N := []
def kx59_s : List fx_D := []
def kx59_x : fx_X := ([], [(12, 6, 0), (21, 6, 1), (116, 10, 6), (165, 0, 6)], [(165, 0, 6, 0)], [], [], [(31, 71, 9, kx16_c), (38, 126, 6, kx58_c), (47, 89, 6, kx21_c)])
set_option maxRecDepth 100000 in
theorem kx59_k : fx_chk TX 2 kx59_c 3 kx59_x t_X6_readBracket kx59_a kx59_s 29 = true := by decide +kernel
set_option maxRecDepth 100000 in
theorem kx59 {l : Launch} {E : (Nat → Prop) → State → Prop} {ad : List Nat} {D : va_G} {gs : List Nat} {cy : Nat → ClassId} (h : fxX E D cy) : fx_Met l yX6_readBracket (.code yX6_readBracket cX6_readBracket 2 (some .boolean) :: wsL_law) ({ frames := 32, cells := 0, slots := 0, locals := 711 }) E (gs, TX, cy, fun _ => True) ad D classes kx59_c :=
  fx_sound (x := kx59_x) (tb := t_X6_readBracket) (an := kx59_a) (sp := kx59_s) (rk := 3) 29 h.1 (fun _ _ _ _ _ _ => trivial) (fun _ _ _ _ _ _ => trivial) (ht_tys cy) (by decide) rfl ⟨fx_an, (fx_ac fl_X6_12 (fx_ac fl_X6_21 (fx_ac fl_X6_116 (fx_ac fl_X6_165 (fx_an))))), (fx_ac pl_X6_165 (fx_an)), fx_an, fx_an, (fx_ac (ev_V (kx16 h) (by decide) rfl ⟨by decide, by decide⟩ iV_X9_advance g_X6_71) (fx_ac (ev_V (kx58 h) (by decide) rfl ⟨by decide, by decide⟩ iV_X6_readEither g_X6_126) (fx_ac (ev_V (kx21 h) (by decide) rfl ⟨by decide, by decide⟩ iV_X6_pass g_X6_89) (fx_an))))⟩ d_X6_readBracket kx59_k
-- X6_readUnit 1 i ('c', 3)
def kx60_c : fx_C := ([.inr (.inr 2), .inl (3, 3)], [], [(some (.inl (0, 0)), [.inr (.inr 2), .inl (3, 3)], [((0, 2), .inl (1, 5))]), (some (.inl (1, 1)), [.inr (.inr 2), .inl (3, 3)], [((0, 1), .inr (.inr 9)), ((2, 6), .inr (.inr 10)), ((3, 4), .inl (1, 512)), ((3, 6), .inl (-2147483647, 30))])], [(0, 4), (0, 6), (6, 2), (6, 3), (9, 3), (9, 4), (9, 5), (9, 6), (9, 7), (1000, 17), (1000, 18)])
def kx60_a : List fx_N := []
def kx60_s : List fx_D := []
def kx60_x : fx_X := ([], [(12, 6, 0), (21, 6, 1), (38, 9, 4), (96, 9, 6), (116, 10, 6), (165, 0, 6)], [(165, 0, 6, 0)], [], [], [(24, 65, 6, kx19_c), (36, 168, 6, kx59_c), (47, 171, 1000, kx25_c), (54, 65, 6, kx19_c), (89, 144, 0, kx26_c), (96, 71, 9, kx16_c)])
set_option maxRecDepth 100000 in
theorem kx60_k : fx_chk TX 3 kx60_c 3 kx60_x t_X6_readUnit kx60_a kx60_s 42 = true := by decide +kernel
set_option maxRecDepth 100000 in
theorem kx60 {l : Launch} {E : (Nat → Prop) → State → Prop} {ad : List Nat} {D : va_G} {gs : List Nat} {cy : Nat → ClassId} (h : fxX E D cy) : fx_Met l yX6_readUnit (.code yX6_readUnit cX6_readUnit 3 (some .boolean) :: wsL_law) ({ frames := 33, cells := 0, slots := 0, locals := 732 }) E (gs, TX, cy, fun _ => True) ad D classes kx60_c :=
  fx_sound (x := kx60_x) (tb := t_X6_readUnit) (an := kx60_a) (sp := kx60_s) (rk := 3) 42 h.1 (fun _ _ _ _ _ _ => trivial) (fun _ _ _ _ _ _ => trivial) (ht_tys cy) (by decide) rfl ⟨fx_an, (fx_ac fl_X6_12 (fx_ac fl_X6_21 (fx_ac fl_X6_38 (fx_ac fl_X6_96 (fx_ac fl_X6_116 (fx_ac fl_X6_165 (fx_an))))))), (fx_ac pl_X6_165 (fx_an)), fx_an, fx_an, (fx_ac (ev_V (kx19 h) (by decide) rfl ⟨by decide, by decide⟩ iV_X6_refuse g_X6_65) (fx_ac (ev_V (kx59 h) (by decide) rfl ⟨by decide, by decide⟩ iV_X6_readBracket g_X6_168) (fx_ac (ev_S (kx25 h) ⟨by decide, by decide⟩ iS_X9_isKnownKey g_X6_171) (fx_ac (ev_V (kx19 h) (by decide) rfl ⟨by decide, by decide⟩ iV_X6_refuse g_X6_65) (fx_ac (ev_V (kx26 h) (by decide) rfl ⟨by decide, by decide⟩ iV_X0_add g_X6_144) (fx_ac (ev_V (kx16 h) (by decide) rfl ⟨by decide, by decide⟩ iV_X9_advance g_X6_71) (fx_an)))))))⟩ d_X6_readUnit kx60_k
-- X6_readTerm 1 i ('c', 3)
def kx61_c : fx_C := ([.inr (.inr 2), .inl (3, 3)], [], [(some (.inl (0, 0)), [.inr (.inr 2), .inl (3, 3)], [((0, 2), .inl (1, 5))]), (some (.inl (1, 1)), [.inr (.inr 2), .inl (3, 3)], [((0, 1), .inr (.inr 9)), ((2, 6), .inr (.inr 10)), ((3, 4), .inl (1, 512)), ((3, 6), .inl (-2147483647, 30))])], [(0, 4), (0, 6), (6, 2), (6, 3), (9, 3), (9, 4), (9, 5), (9, 6), (9, 7), (1000, 17), (1000, 18)])
def kx61_a : List fx_N := [(12, [(0, .inr (.inr 2)), (1, .inl (3, 3)), (2, .inl (0, 1600))], [((0, 1), .inr (.inr 9)), ((3, 6), .inr (.inr 10)), ((4, 4), .inl (1, 512)), ((4, 6), .inl (-2147483647, 30))], [(0, 0), (1, 2), (0, 0)], [(0, 0), (1, 1)])]
def kx61_s : List fx_D := []
def kx61_x : fx_X := ([], [(12, 6, 0), (21, 6, 1), (38, 9, 4), (116, 10, 6)], [], [], [], [(2, 159, 6, kx60_c), (26, 162, 1000, kx28_c), (44, 71, 9, kx16_c), (49, 159, 6, kx60_c), (66, 144, 0, kx26_c)])
set_option maxRecDepth 100000 in
theorem kx61_k : fx_chk TX 4 kx61_c 3 kx61_x t_X6_readTerm kx61_a kx61_s 30 = true := by decide +kernel
set_option maxRecDepth 100000 in
theorem kx61 {l : Launch} {E : (Nat → Prop) → State → Prop} {ad : List Nat} {D : va_G} {gs : List Nat} {cy : Nat → ClassId} (h : fxX E D cy) : fx_Met l yX6_readTerm (.code yX6_readTerm cX6_readTerm 4 (some .boolean) :: wsL_law) ({ frames := 34, cells := 0, slots := 0, locals := 754 }) E (gs, TX, cy, fun _ => True) ad D classes kx61_c :=
  fx_sound (x := kx61_x) (tb := t_X6_readTerm) (an := kx61_a) (sp := kx61_s) (rk := 3) 30 h.1 (fun _ _ _ _ _ _ => trivial) (fun _ _ _ _ _ _ => trivial) (ht_tys cy) (by decide) rfl ⟨fx_an, (fx_ac fl_X6_12 (fx_ac fl_X6_21 (fx_ac fl_X6_38 (fx_ac fl_X6_116 (fx_an))))), fx_an, fx_an, fx_an, (fx_ac (ev_V (kx60 h) (by decide) rfl ⟨by decide, by decide⟩ iV_X6_readUnit g_X6_159) (fx_ac (ev_S (kx28 h) ⟨by decide, by decide⟩ iS_X6_isTermSign g_X6_162) (fx_ac (ev_V (kx16 h) (by decide) rfl ⟨by decide, by decide⟩ iV_X9_advance g_X6_71) (fx_ac (ev_V (kx60 h) (by decide) rfl ⟨by decide, by decide⟩ iV_X6_readUnit g_X6_159) (fx_ac (ev_V (kx26 h) (by decide) rfl ⟨by decide, by decide⟩ iV_X0_add g_X6_144) (fx_an))))))⟩ d_X6_readTerm kx61_k
-- X6_readSum 1 i ('c', 3)
def kx62_c : fx_C := ([.inr (.inr 2), .inl (3, 3)], [], [(some (.inl (0, 0)), [.inr (.inr 2), .inl (3, 3)], [((0, 2), .inl (1, 5))]), (some (.inl (1, 1)), [.inr (.inr 2), .inl (3, 3)], [((0, 1), .inr (.inr 9)), ((2, 6), .inr (.inr 10)), ((3, 4), .inl (1, 512)), ((3, 6), .inl (-2147483647, 30))])], [(0, 4), (0, 6), (6, 2), (6, 3), (9, 3), (9, 4), (9, 5), (9, 6), (9, 7), (1000, 17), (1000, 18)])
def kx62_a : List fx_N := [(12, [(0, .inr (.inr 2)), (1, .inl (3, 3)), (2, .inl (0, 1600))], [((0, 1), .inr (.inr 9)), ((3, 6), .inr (.inr 10)), ((4, 4), .inl (1, 512)), ((4, 6), .inl (-2147483647, 30))], [(0, 0), (1, 2), (0, 0)], [(0, 0), (1, 1)])]
def kx62_s : List fx_D := []
def kx62_x : fx_X := ([], [(12, 6, 0), (21, 6, 1), (38, 9, 4), (116, 10, 6)], [], [], [], [(2, 156, 6, kx61_c), (55, 71, 9, kx16_c), (60, 156, 6, kx61_c), (77, 144, 0, kx26_c)])
set_option maxRecDepth 100000 in
theorem kx62_k : fx_chk TX 4 kx62_c 3 kx62_x t_X6_readSum kx62_a kx62_s 35 = true := by decide +kernel
set_option maxRecDepth 100000 in
theorem kx62 {l : Launch} {E : (Nat → Prop) → State → Prop} {ad : List Nat} {D : va_G} {gs : List Nat} {cy : Nat → ClassId} (h : fxX E D cy) : fx_Met l yX6_readSum (.code yX6_readSum cX6_readSum 4 (some .boolean) :: wsL_law) ({ frames := 35, cells := 0, slots := 0, locals := 777 }) E (gs, TX, cy, fun _ => True) ad D classes kx62_c :=
  fx_sound (x := kx62_x) (tb := t_X6_readSum) (an := kx62_a) (sp := kx62_s) (rk := 3) 35 h.1 (fun _ _ _ _ _ _ => trivial) (fun _ _ _ _ _ _ => trivial) (ht_tys cy) (by decide) rfl ⟨fx_an, (fx_ac fl_X6_12 (fx_ac fl_X6_21 (fx_ac fl_X6_38 (fx_ac fl_X6_116 (fx_an))))), fx_an, fx_an, fx_an, (fx_ac (ev_V (kx61 h) (by decide) rfl ⟨by decide, by decide⟩ iV_X6_readTerm g_X6_156) (fx_ac (ev_V (kx16 h) (by decide) rfl ⟨by decide, by decide⟩ iV_X9_advance g_X6_71) (fx_ac (ev_V (kx61 h) (by decide) rfl ⟨by decide, by decide⟩ iV_X6_readTerm g_X6_156) (fx_ac (ev_V (kx26 h) (by decide) rfl ⟨by decide, by decide⟩ iV_X0_add g_X6_144) (fx_an)))))⟩ d_X6_readSum kx62_k
-- X6_readOne 1 i ('c', 3)
def kx63_c : fx_C := ([.inr (.inr 2), .inl (3, 3)], [], [(some (.inl (0, 0)), [.inr (.inr 2), .inl (3, 3)], [((0, 2), .inl (1, 5))]), (some (.inl (1, 1)), [.inr (.inr 2), .inl (3, 3)], [((0, 1), .inr (.inr 9)), ((2, 6), .inr (.inr 10)), ((3, 4), .inl (1, 512)), ((3, 6), .inl (-2147483647, 30))])], [(0, 4), (0, 6), (6, 2), (6, 3), (9, 3), (9, 4), (9, 5), (9, 6), (9, 7), (1000, 17), (1000, 18)])
def kx63_a : List fx_N := []
def kx63_s : List fx_D := []
def kx63_x : fx_X := ([], [(12, 6, 0), (21, 6, 1), (38, 9, 4), (116, 10, 6)], [], [], [], [(15, 150, 6, kx56_c), (21, 153, 6, kx62_c), (61, 71, 9, kx16_c), (66, 153, 6, kx62_c), (83, 144, 0, kx26_c)])
set_option maxRecDepth 100000 in
theorem kx63_k : fx_chk TX 3 kx63_c 3 kx63_x t_X6_readOne kx63_a kx63_s 39 = true := by decide +kernel
set_option maxRecDepth 100000 in
theorem kx63 {l : Launch} {E : (Nat → Prop) → State → Prop} {ad : List Nat} {D : va_G} {gs : List Nat} {cy : Nat → ClassId} (h : fxX E D cy) : fx_Met l yX6_readOne (.code yX6_readOne cX6_readOne 3 (some .boolean) :: wsL_law) ({ frames := 36, cells := 0, slots := 0, locals := 800 }) E (gs, TX, cy, fun _ => True) ad D classes kx63_c :=
  fx_sound (x := kx63_x) (tb := t_X6_readOne) (an := kx63_a) (sp := kx63_s) (rk := 3) 39 h.1 (fun _ _ _ _ _ _ => trivial) (fun _ _ _ _ _ _ => trivial) (ht_tys cy) (by decide) rfl ⟨fx_an, (fx_ac fl_X6_12 (fx_ac fl_X6_21 (fx_ac fl_X6_38 (fx_ac fl_X6_116 (fx_an))))), fx_an, fx_an, fx_an, (fx_ac (ev_V (kx56 h) (by decide) rfl ⟨by decide, by decide⟩ iV_X6_readNot g_X6_150) (fx_ac (ev_V (kx62 h) (by decide) rfl ⟨by decide, by decide⟩ iV_X6_readSum g_X6_153) (fx_ac (ev_V (kx16 h) (by decide) rfl ⟨by decide, by decide⟩ iV_X9_advance g_X6_71) (fx_ac (ev_V (kx62 h) (by decide) rfl ⟨by decide, by decide⟩ iV_X6_readSum g_X6_153) (fx_ac (ev_V (kx26 h) (by decide) rfl ⟨by decide, by decide⟩ iV_X0_add g_X6_144) (fx_an))))))⟩ d_X6_readOne kx63_k
-- X6_readNot 1 i ('c', 2)
def kx64_c : fx_C := ([.inr (.inr 2), .inl (2, 2)], [], [(some (.inl (1, 1)), [.inr (.inr 2), .inl (2, 2)], [((0, 1), .inr (.inr 9)), ((2, 6), .inr (.inr 10)), ((3, 4), .inl (1, 512)), ((3, 6), .inl (-2147483647, 30))]), (some (.inl (0, 0)), [.inr (.inr 2), .inl (2, 2)], [((0, 2), .inl (1, 5))])], [(0, 4), (0, 6), (6, 2), (6, 3), (9, 3), (9, 4), (9, 5), (9, 6), (9, 7), (1000, 17), (1000, 18)])
def kx64_a : List fx_N := []
def kx64_s : List fx_D := []
def kx64_x : fx_X := ([], [(12, 6, 0), (21, 6, 1), (116, 10, 6)], [], [], [], [(15, 71, 9, kx16_c), (22, 147, 6, kx63_c), (41, 144, 0, kx26_c)])
set_option maxRecDepth 100000 in
theorem kx64_k : fx_chk TX 2 kx64_c 3 kx64_x t_X6_readNot kx64_a kx64_s 22 = true := by decide +kernel
set_option maxRecDepth 100000 in
theorem kx64 {l : Launch} {E : (Nat → Prop) → State → Prop} {ad : List Nat} {D : va_G} {gs : List Nat} {cy : Nat → ClassId} (h : fxX E D cy) : fx_Met l yX6_readNot (.code yX6_readNot cX6_readNot 2 (some .boolean) :: wsL_law) ({ frames := 37, cells := 0, slots := 0, locals := 822 }) E (gs, TX, cy, fun _ => True) ad D classes kx64_c :=
  fx_sound (x := kx64_x) (tb := t_X6_readNot) (an := kx64_a) (sp := kx64_s) (rk := 3) 22 h.1 (fun _ _ _ _ _ _ => trivial) (fun _ _ _ _ _ _ => trivial) (ht_tys cy) (by decide) rfl ⟨fx_an, (fx_ac fl_X6_12 (fx_ac fl_X6_21 (fx_ac fl_X6_116 (fx_an)))), fx_an, fx_an, fx_an, (fx_ac (ev_V (kx16 h) (by decide) rfl ⟨by decide, by decide⟩ iV_X9_advance g_X6_71) (fx_ac (ev_V (kx63 h) (by decide) rfl ⟨by decide, by decide⟩ iV_X6_readOne g_X6_147) (fx_ac (ev_V (kx26 h) (by decide) rfl ⟨by decide, by decide⟩ iV_X0_add g_X6_144) (fx_an))))⟩ d_X6_readNot kx64_k
-- X6_readBoth 1 i ('c', 3)
def kx65_c : fx_C := ([.inr (.inr 2), .inl (3, 3)], [], [(some (.inl (0, 0)), [.inr (.inr 2), .inl (3, 3)], [((0, 2), .inl (1, 5))]), (some (.inl (1, 1)), [.inr (.inr 2), .inl (3, 3)], [((0, 1), .inr (.inr 9)), ((2, 6), .inr (.inr 10)), ((3, 4), .inl (1, 512)), ((3, 6), .inl (-2147483647, 30))])], [(0, 4), (0, 6), (6, 2), (6, 3), (9, 3), (9, 4), (9, 5), (9, 6), (9, 7), (1000, 17), (1000, 18)])
def kx65_a : List fx_N := [(12, [(0, .inr (.inr 2)), (1, .inl (3, 3)), (2, .inl (0, 1600))], [((0, 1), .inr (.inr 9)), ((3, 6), .inr (.inr 10)), ((4, 4), .inl (1, 512)), ((4, 6), .inl (-2147483647, 30))], [(0, 0), (1, 2), (0, 0)], [(0, 0), (1, 1)])]
def kx65_s : List fx_D := []
def kx65_x : fx_X := ([], [(12, 6, 0), (21, 6, 1), (38, 9, 4), (116, 10, 6)], [], [], [], [(2, 147, 6, kx63_c), (36, 71, 9, kx16_c), (41, 147, 6, kx63_c), (60, 144, 0, kx26_c)])
set_option maxRecDepth 100000 in
theorem kx65_k : fx_chk TX 3 kx65_c 3 kx65_x t_X6_readBoth kx65_a kx65_s 26 = true := by decide +kernel
set_option maxRecDepth 100000 in
theorem kx65 {l : Launch} {E : (Nat → Prop) → State → Prop} {ad : List Nat} {D : va_G} {gs : List Nat} {cy : Nat → ClassId} (h : fxX E D cy) : fx_Met l yX6_readBoth (.code yX6_readBoth cX6_readBoth 3 (some .boolean) :: wsL_law) ({ frames := 37, cells := 0, slots := 0, locals := 822 }) E (gs, TX, cy, fun _ => True) ad D classes kx65_c :=
  fx_sound (x := kx65_x) (tb := t_X6_readBoth) (an := kx65_a) (sp := kx65_s) (rk := 3) 26 h.1 (fun _ _ _ _ _ _ => trivial) (fun _ _ _ _ _ _ => trivial) (ht_tys cy) (by decide) rfl ⟨fx_an, (fx_ac fl_X6_12 (fx_ac fl_X6_21 (fx_ac fl_X6_38 (fx_ac fl_X6_116 (fx_an))))), fx_an, fx_an, fx_an, (fx_ac (ev_V (kx63 h) (by decide) rfl ⟨by decide, by decide⟩ iV_X6_readOne g_X6_147) (fx_ac (ev_V (kx16 h) (by decide) rfl ⟨by decide, by decide⟩ iV_X9_advance g_X6_71) (fx_ac (ev_V (kx63 h) (by decide) rfl ⟨by decide, by decide⟩ iV_X6_readOne g_X6_147) (fx_ac (ev_V (kx26 h) (by decide) rfl ⟨by decide, by decide⟩ iV_X0_add g_X6_144) (fx_an)))))⟩ d_X6_readBoth kx65_k
-- X6_readEither 1 i ('c', 3)
def kx66_c : fx_C := ([.inr (.inr 2), .inl (3, 3)], [], [(some (.inl (0, 0)), [.inr (.inr 2), .inl (3, 3)], [((0, 2), .inl (1, 5))]), (some (.inl (1, 1)), [.inr (.inr 2), .inl (3, 3)], [((0, 1), .inr (.inr 9)), ((2, 6), .inr (.inr 10)), ((3, 4), .inl (1, 512)), ((3, 6), .inl (-2147483647, 30))])], [(0, 4), (0, 6), (6, 2), (6, 3), (9, 3), (9, 4), (9, 5), (9, 6), (9, 7), (1000, 17), (1000, 18)])
def kx66_a : List fx_N := [(12, [(0, .inr (.inr 2)), (1, .inl (3, 3)), (2, .inl (0, 1600))], [((0, 1), .inr (.inr 9)), ((3, 6), .inr (.inr 10)), ((4, 4), .inl (1, 512)), ((4, 6), .inl (-2147483647, 30))], [(0, 0), (1, 2), (0, 0)], [(0, 0), (1, 1)])]
def kx66_s : List fx_D := []
def kx66_x : fx_X := ([], [(12, 6, 0), (21, 6, 1), (38, 9, 4), (116, 10, 6)], [], [], [], [(2, 141, 6, kx65_c), (36, 71, 9, kx16_c), (41, 141, 6, kx65_c), (60, 144, 0, kx26_c)])
set_option maxRecDepth 100000 in
theorem kx66_k : fx_chk TX 3 kx66_c 3 kx66_x t_X6_readEither kx66_a kx66_s 26 = true := by decide +kernel
set_option maxRecDepth 100000 in
theorem kx66 {l : Launch} {E : (Nat → Prop) → State → Prop} {ad : List Nat} {D : va_G} {gs : List Nat} {cy : Nat → ClassId} (h : fxX E D cy) : fx_Met l yX6_readEither (.code yX6_readEither cX6_readEither 3 (some .boolean) :: wsL_law) ({ frames := 38, cells := 0, slots := 0, locals := 844 }) E (gs, TX, cy, fun _ => True) ad D classes kx66_c :=
  fx_sound (x := kx66_x) (tb := t_X6_readEither) (an := kx66_a) (sp := kx66_s) (rk := 3) 26 h.1 (fun _ _ _ _ _ _ => trivial) (fun _ _ _ _ _ _ => trivial) (ht_tys cy) (by decide) rfl ⟨fx_an, (fx_ac fl_X6_12 (fx_ac fl_X6_21 (fx_ac fl_X6_38 (fx_ac fl_X6_116 (fx_an))))), fx_an, fx_an, fx_an, (fx_ac (ev_V (kx65 h) (by decide) rfl ⟨by decide, by decide⟩ iV_X6_readBoth g_X6_141) (fx_ac (ev_V (kx16 h) (by decide) rfl ⟨by decide, by decide⟩ iV_X9_advance g_X6_71) (fx_ac (ev_V (kx65 h) (by decide) rfl ⟨by decide, by decide⟩ iV_X6_readBoth g_X6_141) (fx_ac (ev_V (kx26 h) (by decide) rfl ⟨by decide, by decide⟩ iV_X0_add g_X6_144) (fx_an)))))⟩ d_X6_readEither kx66_k
-- X6_readBracket 1 i ('c', 2)
def kx67_c : fx_C := ([.inr (.inr 2), .inl (2, 2)], [], [(some (.inl (1, 1)), [.inr (.inr 2), .inl (2, 2)], [((0, 1), .inr (.inr 9)), ((2, 6), .inr (.inr 10)), ((3, 4), .inl (1, 512)), ((3, 6), .inl (-2147483647, 30))]), (some (.inl (0, 0)), [.inr (.inr 2), .inl (2, 2)], [((0, 2), .inl (1, 5))])], [(0, 4), (0, 6), (6, 2), (6, 3), (9, 3), (9, 4), (9, 5), (9, 6), (9, 7), (1000, 17), (1000, 18)])
def kx67_a : List fx_N := []
def kx67_s : List fx_D := []
def kx67_x : fx_X := ([], [(12, 6, 0), (21, 6, 1), (116, 10, 6), (165, 0, 6)], [(165, 0, 6, 0)], [], [], [(31, 71, 9, kx16_c), (38, 126, 6, kx66_c), (47, 89, 6, kx21_c)])
set_option maxRecDepth 100000 in
theorem kx67_k : fx_chk TX 2 kx67_c 3 kx67_x t_X6_readBracket kx67_a kx67_s 29 = true := by decide +kernel
set_option maxRecDepth 100000 in
theorem kx67 {l : Launch} {E : (Nat → Prop) → State → Prop} {ad : List Nat} {D : va_G} {gs : List Nat} {cy : Nat → ClassId} (h : fxX E D cy) : fx_Met l yX6_readBracket (.code yX6_readBracket cX6_readBracket 2 (some .boolean) :: wsL_law) ({ frames := 39, cells := 0, slots := 0, locals := 866 }) E (gs, TX, cy, fun _ => True) ad D classes kx67_c :=
  fx_sound (x := kx67_x) (tb := t_X6_readBracket) (an := kx67_a) (sp := kx67_s) (rk := 3) 29 h.1 (fun _ _ _ _ _ _ => trivial) (fun _ _ _ _ _ _ => trivial) (ht_tys cy) (by decide) rfl ⟨fx_an, (fx_ac fl_X6_12 (fx_ac fl_X6_21 (fx_ac fl_X6_116 (fx_ac fl_X6_165 (fx_an))))), (fx_ac pl_X6_165 (fx_an)), fx_an, fx_an, (fx_ac (ev_V (kx16 h) (by decide) rfl ⟨by decide, by decide⟩ iV_X9_advance g_X6_71) (fx_ac (ev_V (kx66 h) (by decide) rfl ⟨by decide, by decide⟩ iV_X6_readEither g_X6_126) (fx_ac (ev_V (kx21 h) (by decide) rfl ⟨by decide, by decide⟩ iV_X6_pass g_X6_89) (fx_an))))⟩ d_X6_readBracket kx67_k
