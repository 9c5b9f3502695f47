-- X12_back 0 i
def km336_c : fx_C := ([.inr (.inr 1), .inl (-2147483648, 2147483647)], [], [(some (.inl (-1, -1)), [.inr (.inr 1), .inl (-2147483648, 2147483647)], []), (some (.inl (-2147483648, 2147483647)), [.inr (.inr 1), .inl (0, 2)], [((0, 49), .inl (0, 0)), ((0, 50), .inl (0, 0))])], [(12, 49), (12, 50), (1000, 42)])
def km336_a : List fx_N := [(22, [(1, .inl (0, 0)), (2, .inl (0, 0)), (0, .inr (.inr 1))], [], [(0, 15)], [(0, 2), (1, 0)]), (22, [(1, .inl (1, 1)), (2, .inl (0, 0)), (0, .inr (.inr 1))], [], [(0, 31)], [(0, 2), (1, 0)]), (22, [(1, .inl (2, 2)), (2, .inl (0, 0)), (0, .inr (.inr 1))], [], [(0, 47)], [(0, 2), (1, 0)]), (22, [(1, .inl (0, 0)), (2, .inl (1, 1)), (0, .inr (.inr 1))], [], [(0, 14)], [(0, 2), (1, 0)]), (22, [(1, .inl (1, 1)), (2, .inl (1, 1)), (0, .inr (.inr 1))], [], [(0, 30)], [(0, 2), (1, 0)]), (22, [(1, .inl (2, 2)), (2, .inl (1, 1)), (0, .inr (.inr 1))], [], [(0, 46)], [(0, 2), (1, 0)]), (22, [(1, .inl (0, 0)), (2, .inl (2, 2)), (0, .inr (.inr 1))], [], [(0, 13)], [(0, 2), (1, 0)]), (22, [(1, .inl (1, 1)), (2, .inl (2, 2)), (0, .inr (.inr 1))], [], [(0, 29)], [(0, 2), (1, 0)]), (22, [(1, .inl (2, 2)), (2, .inl (2, 2)), (0, .inr (.inr 1))], [], [(0, 45)], [(0, 2), (1, 0)]), (22, [(1, .inl (0, 0)), (2, .inl (3, 3)), (0, .inr (.inr 1))], [], [(0, 12)], [(0, 2), (1, 0)]), (22, [(1, .inl (1, 1)), (2, .inl (3, 3)), (0, .inr (.inr 1))], [], [(0, 28)], [(0, 2), (1, 0)]), (22, [(1, .inl (2, 2)), (2, .inl (3, 3)), (0, .inr (.inr 1))], [], [(0, 44)], [(0, 2), (1, 0)]), (22, [(1, .inl (0, 0)), (2, .inl (4, 4)), (0, .inr (.inr 1))], [], [(0, 11)], [(0, 2), (1, 0)]), (22, [(1, .inl (1, 1)), (2, .inl (4, 4)), (0, .inr (.inr 1))], [], [(0, 27)], [(0, 2), (1, 0)]), (22, [(1, .inl (2, 2)), (2, .inl (4, 4)), (0, .inr (.inr 1))], [], [(0, 43)], [(0, 2), (1, 0)]), (22, [(1, .inl (0, 0)), (2, .inl (5, 5)), (0, .inr (.inr 1))], [], [(0, 10)], [(0, 2), (1, 0)]), (22, [(1, .inl (1, 1)), (2, .inl (5, 5)), (0, .inr (.inr 1))], [], [(0, 26)], [(0, 2), (1, 0)]), (22, [(1, .inl (2, 2)), (2, .inl (5, 5)), (0, .inr (.inr 1))], [], [(0, 42)], [(0, 2), (1, 0)]), (22, [(1, .inl (0, 0)), (2, .inl (6, 6)), (0, .inr (.inr 1))], [], [(0, 9)], [(0, 2), (1, 0)]), (22, [(1, .inl (1, 1)), (2, .inl (6, 6)), (0, .inr (.inr 1))], [], [(0, 25)], [(0, 2), (1, 0)]), (22, [(1, .inl (2, 2)), (2, .inl (6, 6)), (0, .inr (.inr 1))], [], [(0, 41)], [(0, 2), (1, 0)]), (22, [(1, .inl (0, 0)), (2, .inl (7, 7)), (0, .inr (.inr 1))], [], [(0, 8)], [(0, 2), (1, 0)]), (22, [(1, .inl (1, 1)), (2, .inl (7, 7)), (0, .inr (.inr 1))], [], [(0, 24)], [(0, 2), (1, 0)]), (22, [(1, .inl (2, 2)), (2, .inl (7, 7)), (0, .inr (.inr 1))], [], [(0, 40)], [(0, 2), (1, 0)]), (22, [(1, .inl (0, 0)), (2, .inl (8, 8)), (0, .inr (.inr 1))], [], [(0, 7)], [(0, 2), (1, 0)]), (22, [(1, .inl (1, 1)), (2, .inl (8, 8)), (0, .inr (.inr 1))], [], [(0, 23)], [(0, 2), (1, 0)]), (22, [(1, .inl (2, 2)), (2, .inl (8, 8)), (0, .inr (.inr 1))], [], [(0, 39)], [(0, 2), (1, 0)]), (22, [(1, .inl (0, 0)), (2, .inl (9, 9)), (0, .inr (.inr 1))], [], [(0, 6)], [(0, 2), (1, 0)]), (22, [(1, .inl (1, 1)), (2, .inl (9, 9)), (0, .inr (.inr 1))], [], [(0, 22)], [(0, 2), (1, 0)]), (22, [(1, .inl (2, 2)), (2, .inl (9, 9)), (0, .inr (.inr 1))], [], [(0, 38)], [(0, 2), (1, 0)]), (22, [(1, .inl (0, 0)), (2, .inl (10, 10)), (0, .inr (.inr 1))], [], [(0, 5)], [(0, 2), (1, 0)]), (22, [(1, .inl (1, 1)), (2, .inl (10, 10)), (0, .inr (.inr 1))], [], [(0, 21)], [(0, 2), (1, 0)]), (22, [(1, .inl (2, 2)), (2, .inl (10, 10)), (0, .inr (.inr 1))], [], [(0, 37)], [(0, 2), (1, 0)]), (22, [(1, .inl (0, 0)), (2, .inl (11, 11)), (0, .inr (.inr 1))], [], [(0, 4)], [(0, 2), (1, 0)]), (22, [(1, .inl (1, 1)), (2, .inl (11, 11)), (0, .inr (.inr 1))], [], [(0, 20)], [(0, 2), (1, 0)]), (22, [(1, .inl (2, 2)), (2, .inl (11, 11)), (0, .inr (.inr 1))], [], [(0, 36)], [(0, 2), (1, 0)]), (22, [(1, .inl (0, 0)), (2, .inl (12, 12)), (0, .inr (.inr 1))], [], [(0, 3)], [(0, 2), (1, 0)]), (22, [(1, .inl (1, 1)), (2, .inl (12, 12)), (0, .inr (.inr 1))], [], [(0, 19)], [(0, 2), (1, 0)]), (22, [(1, .inl (2, 2)), (2, .inl (12, 12)), (0, .inr (.inr 1))], [], [(0, 35)], [(0, 2), (1, 0)]), (22, [(1, .inl (0, 0)), (2, .inl (13, 13)), (0, .inr (.inr 1))], [], [(0, 2)], [(0, 2), (1, 0)]), (22, [(1, .inl (1, 1)), (2, .inl (13, 13)), (0, .inr (.inr 1))], [], [(0, 18)], [(0, 2), (1, 0)]), (22, [(1, .inl (2, 2)), (2, .inl (13, 13)), (0, .inr (.inr 1))], [], [(0, 34)], [(0, 2), (1, 0)]), (22, [(1, .inl (0, 0)), (2, .inl (14, 14)), (0, .inr (.inr 1))], [], [(0, 1)], [(0, 2), (1, 0)]), (22, [(1, .inl (1, 1)), (2, .inl (14, 14)), (0, .inr (.inr 1))], [], [(0, 17)], [(0, 2), (1, 0)]), (22, [(1, .inl (2, 2)), (2, .inl (14, 14)), (0, .inr (.inr 1))], [], [(0, 33)], [(0, 2), (1, 0)]), (22, [(1, .inl (0, 0)), (2, .inl (15, 15)), (0, .inr (.inr 1))], [], [(0, 0)], [(0, 2), (1, 0)]), (22, [(1, .inl (1, 1)), (2, .inl (15, 15)), (0, .inr (.inr 1))], [], [(0, 16)], [(0, 2), (1, 0)]), (22, [(1, .inl (2, 2)), (2, .inl (15, 15)), (0, .inr (.inr 1))], [], [(0, 32)], [(0, 2), (1, 0)])]
def km336_s : List fx_D := [(22, [(1, .inl (-2147483648, 2147483647))], [], 0)]
def km336_x : fx_X := ([], [(92, 12, 41), (155, 12, 72), (158, 12, 73)], [(366, 12, 49, 0), (369, 12, 50, 0)], [], [], [(3, 359, 1000, km40_c)])
set_option maxRecDepth 100000 in
theorem km336_k : fx_chk TM 3 km336_c 0 km336_x t_X12_back km336_a km336_s 20 = true := by decide +kernel
set_option maxRecDepth 100000 in
theorem km336 {l : Launch} {E : (Nat → Prop) → State → Prop} {ad : List Nat} {D : va_G} {cy : Nat → ClassId} (h : fx_env E D classes (tys cy) nestW) : fx_Met l yX12_back (.code yX12_back cX12_back 3 (some .int) :: wsL_law) ({ frames := 1, cells := 0, slots := 0, locals := 22 }) E (gsM, TM, cy, fun _ => True) ad D classes km336_c :=
  fx_sound (x := km336_x) (tb := t_X12_back) (an := km336_a) (sp := km336_s) (rk := 0) 20 h (fun _ _ _ _ _ _ => trivial) (fun _ _ _ _ _ _ => trivial) (ht_tys cy) (by decide) rfl ⟨fx_an, (fx_ac fl_X12_92 (fx_ac fl_X12_155 (fx_ac fl_X12_158 (fx_an)))), (fx_ac pl_X12_366 (fx_ac pl_X12_369 (fx_an))), fx_an, fx_an, (fx_ac (ev_S (km40 h) ⟨by decide, by decide⟩ iS_X12_isIn g_X12_359) (fx_an))⟩ d_X12_back km336_k
-- X12_about 0 i
def km337_c : fx_C := ([.inr (.inr 1), .inl (-2147483648, 2147483647)], [], [(some (.inl (-1, -1)), [.inr (.inr 1), .inl (-2147483648, 2147483647)], []), (some (.inl (-2147483648, 2147483647)), [.inr (.inr 1), .inl (0, 12)], [])], [])
def km337_a : List fx_N := []
def km337_s : List fx_D := []
def km337_x : fx_X := ([], [(20, 12, 11), (24, 12, 12), (27, 12, 13), (30, 12, 14), (92, 12, 41), (271, 12, 2), (274, 12, 34), (366, 12, 49), (369, 12, 50), (372, 12, 69), (375, 12, 55), (526, 12, 70)], [], [], [], [])
set_option maxRecDepth 100000 in
theorem km337_k : fx_chk TM 2 km337_c 0 km337_x t_X12_about km337_a km337_s 10 = true := by decide +kernel
set_option maxRecDepth 100000 in
theorem km337 {l : Launch} {E : (Nat → Prop) → State → Prop} {ad : List Nat} {D : va_G} {cy : Nat → ClassId} (h : fx_env E D classes (tys cy) nestW) : fx_Met l yX12_about (.code yX12_about cX12_about 2 (some .int) :: wsL_law) ({ frames := 0, cells := 0, slots := 0, locals := 0 }) E (gsM, TM, cy, fun _ => True) ad D classes km337_c :=
  fx_sound (x := km337_x) (tb := t_X12_about) (an := km337_a) (sp := km337_s) (rk := 0) 10 h (fun _ _ _ _ _ _ => trivial) (fun _ _ _ _ _ _ => trivial) (ht_tys cy) (by decide) rfl ⟨fx_an, (fx_ac fl_X12_20 (fx_ac fl_X12_24 (fx_ac fl_X12_27 (fx_ac fl_X12_30 (fx_ac fl_X12_92 (fx_ac fl_X12_271 (fx_ac fl_X12_274 (fx_ac fl_X12_366 (fx_ac fl_X12_369 (fx_ac fl_X12_372 (fx_ac fl_X12_375 (fx_ac fl_X12_526 (fx_an))))))))))))), fx_an, fx_an, fx_an, fx_an⟩ d_X12_about km337_k
-- X12_sign 0 i
def km338_c : fx_C := ([.inr (.inr 1), .inl (0, 1601)], [], [(some (.inl (0, 255)), [.inr (.inr 1), .inl (0, 1599)], [((0, 3), .inl (1, 1600))]), (some (.inl (0, 0)), [.inr (.inr 1), .inl (0, 1601)], [])], [])
def km338_a : List fx_N := []
def km338_s : List fx_D := []
def km338_x : fx_X := ([], [(13, 12, 1), (167, 12, 3)], [], [], [], [])
set_option maxRecDepth 100000 in
theorem km338_k : fx_chk TM 2 km338_c 0 km338_x t_X12_sign km338_a km338_s 14 = true := by decide +kernel
set_option maxRecDepth 100000 in
theorem km338 {l : Launch} {E : (Nat → Prop) → State → Prop} {ad : List Nat} {D : va_G} {cy : Nat → ClassId} (h : fx_env E D classes (tys cy) nestW) : fx_Met l yX12_sign (.code yX12_sign cX12_sign 2 (some .int) :: wsL_law) ({ frames := 0, cells := 0, slots := 0, locals := 0 }) E (gsM, TM, cy, fun _ => True) ad D classes km338_c :=
  fx_sound (x := km338_x) (tb := t_X12_sign) (an := km338_a) (sp := km338_s) (rk := 0) 14 h (fun _ _ _ _ _ _ => trivial) (fun _ _ _ _ _ _ => trivial) (ht_tys cy) (by decide) rfl ⟨fx_an, (fx_ac fl_X12_13 (fx_ac fl_X12_167 (fx_an))), fx_an, fx_an, fx_an, fx_an⟩ d_X12_sign km338_k
-- X12_isLetter i
def km339_c : fx_C := ([.inl (-2147483648, 2147483647)], [], [(some (.inl (1, 1)), [.inl (97, 122)], []), (some (.inl (0, 0)), [.inl (-2147483648, 2147483647)], [])], [])
def km339_a : List fx_N := []
def km339_s : List fx_D := []
def km339_x : fx_X := ([], [], [], [], [], [])
set_option maxRecDepth 100000 in
theorem km339_k : fx_chk TM 1 km339_c 3 km339_x t_X12_isLetter km339_a km339_s 11 = true := by decide +kernel
set_option maxRecDepth 100000 in
theorem km339 {l : Launch} {E : (Nat → Prop) → State → Prop} {ad : List Nat} {D : va_G} {cy : Nat → ClassId} (h : fx_env E D classes (tys cy) nestW) : fx_Met l yX12_isLetter (.code yX12_isLetter cX12_isLetter 1 (some .boolean) :: wsL_law) ({ frames := 0, cells := 0, slots := 0, locals := 0 }) E (gsM, TM, cy, fun _ => True) ad D classes km339_c :=
  fx_sound (x := km339_x) (tb := t_X12_isLetter) (an := km339_a) (sp := km339_s) (rk := 3) 11 h (fun _ _ _ _ _ _ => trivial) (fun _ _ _ _ _ _ => trivial) (ht_tys cy) (by decide) rfl ⟨fx_an, fx_an, fx_an, fx_an, fx_an, fx_an⟩ d_X12_isLetter km339_k
-- X12_isDigit i
def km340_c : fx_C := ([.inl (0, 255)], [], [(some (.inl (1, 1)), [.inl (48, 57)], []), (some (.inl (0, 0)), [.inl (0, 255)], [])], [])
def km340_a : List fx_N := []
def km340_s : List fx_D := []
def km340_x : fx_X := ([], [], [], [], [], [])
set_option maxRecDepth 100000 in
theorem km340_k : fx_chk TM 1 km340_c 3 km340_x t_X12_isDigit km340_a km340_s 11 = true := by decide +kernel
set_option maxRecDepth 100000 in
theorem km340 {l : Launch} {E : (Nat → Prop) → State → Prop} {ad : List Nat} {D : va_G} {cy : Nat → ClassId} (h : fx_env E D classes (tys cy) nestW) : fx_Met l yX12_isDigit (.code yX12_isDigit cX12_isDigit 1 (some .boolean) :: wsL_law) ({ frames := 0, cells := 0, slots := 0, locals := 0 }) E (gsM, TM, cy, fun _ => True) ad D classes km340_c :=
  fx_sound (x := km340_x) (tb := t_X12_isDigit) (an := km340_a) (sp := km340_s) (rk := 3) 11 h (fun _ _ _ _ _ _ => trivial) (fun _ _ _ _ _ _ => trivial) (ht_tys cy) (by decide) rfl ⟨fx_an, fx_an, fx_an, fx_an, fx_an, fx_an⟩ d_X12_isDigit km340_k
-- X12_isSign i
def km341_c : fx_C := ([.inl (0, 255)], [], [(some (.inl (1, 1)), [.inl (37, 62)], []), (some (.inl (0, 0)), [.inl (0, 255)], [])], [])
def km341_a : List fx_N := []
def km341_s : List fx_D := []
def km341_x : fx_X := ([], [], [], [], [], [])
set_option maxRecDepth 100000 in
theorem km341_k : fx_chk TM 1 km341_c 3 km341_x t_X12_isSign km341_a km341_s 38 = true := by decide +kernel
set_option maxRecDepth 100000 in
theorem km341 {l : Launch} {E : (Nat → Prop) → State → Prop} {ad : List Nat} {D : va_G} {cy : Nat → ClassId} (h : fx_env E D classes (tys cy) nestW) : fx_Met l yX12_isSign (.code yX12_isSign cX12_isSign 1 (some .boolean) :: wsL_law) ({ frames := 0, cells := 0, slots := 0, locals := 0 }) E (gsM, TM, cy, fun _ => True) ad D classes km341_c :=
  fx_sound (x := km341_x) (tb := t_X12_isSign) (an := km341_a) (sp := km341_s) (rk := 3) 38 h (fun _ _ _ _ _ _ => trivial) (fun _ _ _ _ _ _ => trivial) (ht_tys cy) (by decide) rfl ⟨fx_an, fx_an, fx_an, fx_an, fx_an, fx_an⟩ d_X12_isSign km341_k
