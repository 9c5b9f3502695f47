-- X12_back 0 i
def km285_c : fx_C := ([.inr (.inr 1), .inl (-2147483648, 2147483647)], [], [(some (.inl (-1, -1)), [.inr (.inr 1), .inl (-2147483648, 2147483647)], []), (some (.inl (-2147483648, 2147483647)), [.inr (.inr 1), .inl (0, 2)], [((0, 49), .inl (0, 0)), ((0, 50), .inl (0, 0))])], [(12, 49), (12, 50), (1000, 26)])
def km285_a : List fx_N := [(22, [(1, .inl (0, 0)), (2, .inl (0, 0)), (0, .inr (.inr 1))], [], [(0, 15)], [(0, 2), (1, 0)]), (22, [(1, .inl (1, 1)), (2, .inl (0, 0)), (0, .inr (.inr 1))], [], [(0, 31)], [(0, 2), (1, 0)]), (22, [(1, .inl (2, 2)), (2, .inl (0, 0)), (0, .inr (.inr 1))], [], [(0, 47)], [(0, 2), (1, 0)]), (22, [(1, .inl (0, 0)), (2, .inl (1, 1)), (0, .inr (.inr 1))], [], [(0, 14)], [(0, 2), (1, 0)]), (22, [(1, .inl (1, 1)), (2, .inl (1, 1)), (0, .inr (.inr 1))], [], [(0, 30)], [(0, 2), (1, 0)]), (22, [(1, .inl (2, 2)), (2, .inl (1, 1)), (0, .inr (.inr 1))], [], [(0, 46)], [(0, 2), (1, 0)]), (22, [(1, .inl (0, 0)), (2, .inl (2, 2)), (0, .inr (.inr 1))], [], [(0, 13)], [(0, 2), (1, 0)]), (22, [(1, .inl (1, 1)), (2, .inl (2, 2)), (0, .inr (.inr 1))], [], [(0, 29)], [(0, 2), (1, 0)]), (22, [(1, .inl (2, 2)), (2, .inl (2, 2)), (0, .inr (.inr 1))], [], [(0, 45)], [(0, 2), (1, 0)]), (22, [(1, .inl (0, 0)), (2, .inl (3, 3)), (0, .inr (.inr 1))], [], [(0, 12)], [(0, 2), (1, 0)]), (22, [(1, .inl (1, 1)), (2, .inl (3, 3)), (0, .inr (.inr 1))], [], [(0, 28)], [(0, 2), (1, 0)]), (22, [(1, .inl (2, 2)), (2, .inl (3, 3)), (0, .inr (.inr 1))], [], [(0, 44)], [(0, 2), (1, 0)]), (22, [(1, .inl (0, 0)), (2, .inl (4, 4)), (0, .inr (.inr 1))], [], [(0, 11)], [(0, 2), (1, 0)]), (22, [(1, .inl (1, 1)), (2, .inl (4, 4)), (0, .inr (.inr 1))], [], [(0, 27)], [(0, 2), (1, 0)]), (22, [(1, .inl (2, 2)), (2, .inl (4, 4)), (0, .inr (.inr 1))], [], [(0, 43)], [(0, 2), (1, 0)]), (22, [(1, .inl (0, 0)), (2, .inl (5, 5)), (0, .inr (.inr 1))], [], [(0, 10)], [(0, 2), (1, 0)]), (22, [(1, .inl (1, 1)), (2, .inl (5, 5)), (0, .inr (.inr 1))], [], [(0, 26)], [(0, 2), (1, 0)]), (22, [(1, .inl (2, 2)), (2, .inl (5, 5)), (0, .inr (.inr 1))], [], [(0, 42)], [(0, 2), (1, 0)]), (22, [(1, .inl (0, 0)), (2, .inl (6, 6)), (0, .inr (.inr 1))], [], [(0, 9)], [(0, 2), (1, 0)]), (22, [(1, .inl (1, 1)), (2, .inl (6, 6)), (0, .inr (.inr 1))], [], [(0, 25)], [(0, 2), (1, 0)]), (22, [(1, .inl (2, 2)), (2, .inl (6, 6)), (0, .inr (.inr 1))], [], [(0, 41)], [(0, 2), (1, 0)]), (22, [(1, .inl (0, 0)), (2, .inl (7, 7)), (0, .inr (.inr 1))], [], [(0, 8)], [(0, 2), (1, 0)]), (22, [(1, .inl (1, 1)), (2, .inl (7, 7)), (0, .inr (.inr 1))], [], [(0, 24)], [(0, 2), (1, 0)]), (22, [(1, .inl (2, 2)), (2, .inl (7, 7)), (0, .inr (.inr 1))], [], [(0, 40)], [(0, 2), (1, 0)]), (22, [(1, .inl (0, 0)), (2, .inl (8, 8)), (0, .inr (.inr 1))], [], [(0, 7)], [(0, 2), (1, 0)]), (22, [(1, .inl (1, 1)), (2, .inl (8, 8)), (0, .inr (.inr 1))], [], [(0, 23)], [(0, 2), (1, 0)]), (22, [(1, .inl (2, 2)), (2, .inl (8, 8)), (0, .inr (.inr 1))], [], [(0, 39)], [(0, 2), (1, 0)]), (22, [(1, .inl (0, 0)), (2, .inl (9, 9)), (0, .inr (.inr 1))], [], [(0, 6)], [(0, 2), (1, 0)]), (22, [(1, .inl (1, 1)), (2, .inl (9, 9)), (0, .inr (.inr 1))], [], [(0, 22)], [(0, 2), (1, 0)]), (22, [(1, .inl (2, 2)), (2, .inl (9, 9)), (0, .inr (.inr 1))], [], [(0, 38)], [(0, 2), (1, 0)]), (22, [(1, .inl (0, 0)), (2, .inl (10, 10)), (0, .inr (.inr 1))], [], [(0, 5)], [(0, 2), (1, 0)]), (22, [(1, .inl (1, 1)), (2, .inl (10, 10)), (0, .inr (.inr 1))], [], [(0, 21)], [(0, 2), (1, 0)]), (22, [(1, .inl (2, 2)), (2, .inl (10, 10)), (0, .inr (.inr 1))], [], [(0, 37)], [(0, 2), (1, 0)]), (22, [(1, .inl (0, 0)), (2, .inl (11, 11)), (0, .inr (.inr 1))], [], [(0, 4)], [(0, 2), (1, 0)]), (22, [(1, .inl (1, 1)), (2, .inl (11, 11)), (0, .inr (.inr 1))], [], [(0, 20)], [(0, 2), (1, 0)]), (22, [(1, .inl (2, 2)), (2, .inl (11, 11)), (0, .inr (.inr 1))], [], [(0, 36)], [(0, 2), (1, 0)]), (22, [(1, .inl (0, 0)), (2, .inl (12, 12)), (0, .inr (.inr 1))], [], [(0, 3)], [(0, 2), (1, 0)]), (22, [(1, .inl (1, 1)), (2, .inl (12, 12)), (0, .inr (.inr 1))], [], [(0, 19)], [(0, 2), (1, 0)]), (22, [(1, .inl (2, 2)), (2, .inl (12, 12)), (0, .inr (.inr 1))], [], [(0, 35)], [(0, 2), (1, 0)]), (22, [(1, .inl (0, 0)), (2, .inl (13, 13)), (0, .inr (.inr 1))], [], [(0, 2)], [(0, 2), (1, 0)]), (22, [(1, .inl (1, 1)), (2, .inl (13, 13)), (0, .inr (.inr 1))], [], [(0, 18)], [(0, 2), (1, 0)]), (22, [(1, .inl (2, 2)), (2, .inl (13, 13)), (0, .inr (.inr 1))], [], [(0, 34)], [(0, 2), (1, 0)]), (22, [(1, .inl (0, 0)), (2, .inl (14, 14)), (0, .inr (.inr 1))], [], [(0, 1)], [(0, 2), (1, 0)]), (22, [(1, .inl (1, 1)), (2, .inl (14, 14)), (0, .inr (.inr 1))], [], [(0, 17)], [(0, 2), (1, 0)]), (22, [(1, .inl (2, 2)), (2, .inl (14, 14)), (0, .inr (.inr 1))], [], [(0, 33)], [(0, 2), (1, 0)]), (22, [(1, .inl (0, 0)), (2, .inl (15, 15)), (0, .inr (.inr 1))], [], [(0, 0)], [(0, 2), (1, 0)]), (22, [(1, .inl (1, 1)), (2, .inl (15, 15)), (0, .inr (.inr 1))], [], [(0, 16)], [(0, 2), (1, 0)]), (22, [(1, .inl (2, 2)), (2, .inl (15, 15)), (0, .inr (.inr 1))], [], [(0, 32)], [(0, 2), (1, 0)])]
def km285_s : List fx_D := [(22, [(1, .inl (-2147483648, 2147483647))], [], 0)]
def km285_x : fx_X := ([], [(92, 12, 41), (155, 12, 72), (158, 12, 73)], [(366, 12, 49, 0), (369, 12, 50, 0)], [], [], [(3, 359, 1000, km30_c)])
set_option maxRecDepth 100000 in
theorem km285_k : fx_chk TM 3 km285_c 0 km285_x t_X12_back km285_a km285_s 20 = true := by decide +kernel
set_option maxRecDepth 100000 in
theorem km285 {l : Launch} {E : (Nat → Prop) → State → Prop} {ad : List Nat} {D : va_G} {cy : Nat → ClassId} (h : fx_env E D classes (tys cy) nestW) : fx_Met l yX12_back (.code yX12_back cX12_back 3 (some .int) :: wsL_law) ({ frames := 1, cells := 0, slots := 0, locals := 22 }) E (gsM, TM, cy, fun _ => True) ad D classes km285_c :=
  fx_sound (x := km285_x) (tb := t_X12_back) (an := km285_a) (sp := km285_s) (rk := 0) 20 h (fun _ _ _ _ _ _ => trivial) (fun _ _ _ _ _ _ => trivial) (ht_tys cy) (by decide) rfl ⟨fx_an, (fx_ac fl_X12_92 (fx_ac fl_X12_155 (fx_ac fl_X12_158 (fx_an)))), (fx_ac pl_X12_366 (fx_ac pl_X12_369 (fx_an))), fx_an, fx_an, (fx_ac (ev_S (km30 h) ⟨by decide, by decide⟩ iS_X12_isIn g_X12_359) (fx_an))⟩ d_X12_back km285_k
-- X12_about 0 i
def km286_c : fx_C := ([.inr (.inr 1), .inl (-2147483648, 2147483647)], [], [(some (.inl (-1, -1)), [.inr (.inr 1), .inl (-2147483648, 2147483647)], []), (some (.inl (-2147483648, 2147483647)), [.inr (.inr 1), .inl (0, 12)], [])], [])
def km286_a : List fx_N := []
def km286_s : List fx_D := []
def km286_x : fx_X := ([], [(20, 12, 11), (24, 12, 12), (27, 12, 13), (30, 12, 14), (92, 12, 41), (271, 12, 2), (274, 12, 34), (366, 12, 49), (369, 12, 50), (372, 12, 69), (375, 12, 55), (526, 12, 70)], [], [], [], [])
set_option maxRecDepth 100000 in
theorem km286_k : fx_chk TM 2 km286_c 0 km286_x t_X12_about km286_a km286_s 10 = true := by decide +kernel
set_option maxRecDepth 100000 in
theorem km286 {l : Launch} {E : (Nat → Prop) → State → Prop} {ad : List Nat} {D : va_G} {cy : Nat → ClassId} (h : fx_env E D classes (tys cy) nestW) : fx_Met l yX12_about (.code yX12_about cX12_about 2 (some .int) :: wsL_law) ({ frames := 0, cells := 0, slots := 0, locals := 0 }) E (gsM, TM, cy, fun _ => True) ad D classes km286_c :=
  fx_sound (x := km286_x) (tb := t_X12_about) (an := km286_a) (sp := km286_s) (rk := 0) 10 h (fun _ _ _ _ _ _ => trivial) (fun _ _ _ _ _ _ => trivial) (ht_tys cy) (by decide) rfl ⟨fx_an, (fx_ac fl_X12_20 (fx_ac fl_X12_24 (fx_ac fl_X12_27 (fx_ac fl_X12_30 (fx_ac fl_X12_92 (fx_ac fl_X12_271 (fx_ac fl_X12_274 (fx_ac fl_X12_366 (fx_ac fl_X12_369 (fx_ac fl_X12_372 (fx_ac fl_X12_375 (fx_ac fl_X12_526 (fx_an))))))))))))), fx_an, fx_an, fx_an, fx_an⟩ d_X12_about km286_k
-- X12_sign 0 i
def km287_c : fx_C := ([.inr (.inr 1), .inl (0, 1601)], [], [(some (.inl (0, 255)), [.inr (.inr 1), .inl (0, 1599)], [((0, 3), .inl (1, 1600))]), (some (.inl (0, 0)), [.inr (.inr 1), .inl (0, 1601)], [])], [])
def km287_a : List fx_N := []
def km287_s : List fx_D := []
def km287_x : fx_X := ([], [(13, 12, 1), (167, 12, 3)], [], [], [], [])
set_option maxRecDepth 100000 in
theorem km287_k : fx_chk TM 2 km287_c 0 km287_x t_X12_sign km287_a km287_s 14 = true := by decide +kernel
set_option maxRecDepth 100000 in
theorem km287 {l : Launch} {E : (Nat → Prop) → State → Prop} {ad : List Nat} {D : va_G} {cy : Nat → ClassId} (h : fx_env E D classes (tys cy) nestW) : fx_Met l yX12_sign (.code yX12_sign cX12_sign 2 (some .int) :: wsL_law) ({ frames := 0, cells := 0, slots := 0, locals := 0 }) E (gsM, TM, cy, fun _ => True) ad D classes km287_c :=
  fx_sound (x := km287_x) (tb := t_X12_sign) (an := km287_a) (sp := km287_s) (rk := 0) 14 h (fun _ _ _ _ _ _ => trivial) (fun _ _ _ _ _ _ => trivial) (ht_tys cy) (by decide) rfl ⟨fx_an, (fx_ac fl_X12_13 (fx_ac fl_X12_167 (fx_an))), fx_an, fx_an, fx_an, fx_an⟩ d_X12_sign km287_k
-- X12_isLetter i
def km288_c : fx_C := ([.inl (-2147483648, 2147483647)], [], [(some (.inl (1, 1)), [.inl (97, 122)], []), (some (.inl (0, 0)), [.inl (-2147483648, 2147483647)], [])], [])
def km288_a : List fx_N := []
def km288_s : List fx_D := []
def km288_x : fx_X := ([], [], [], [], [], [])
set_option maxRecDepth 100000 in
theorem km288_k : fx_chk TM 1 km288_c 3 km288_x t_X12_isLetter km288_a km288_s 11 = true := by decide +kernel
set_option maxRecDepth 100000 in
theorem km288 {l : Launch} {E : (Nat → Prop) → State → Prop} {ad : List Nat} {D : va_G} {cy : Nat → ClassId} (h : fx_env E D classes (tys cy) nestW) : fx_Met l yX12_isLetter (.code yX12_isLetter cX12_isLetter 1 (some .boolean) :: wsL_law) ({ frames := 0, cells := 0, slots := 0, locals := 0 }) E (gsM, TM, cy, fun _ => True) ad D classes km288_c :=
  fx_sound (x := km288_x) (tb := t_X12_isLetter) (an := km288_a) (sp := km288_s) (rk := 3) 11 h (fun _ _ _ _ _ _ => trivial) (fun _ _ _ _ _ _ => trivial) (ht_tys cy) (by decide) rfl ⟨fx_an, fx_an, fx_an, fx_an, fx_an, fx_an⟩ d_X12_isLetter km288_k
-- X12_isDigit i
def km289_c : fx_C := ([.inl (0, 255)], [], [(some (.inl (1, 1)), [.inl (48, 57)], []), (some (.inl (0, 0)), [.inl (0, 255)], [])], [])
def km289_a : List fx_N := []
def km289_s : List fx_D := []
def km289_x : fx_X := ([], [], [], [], [], [])
set_option maxRecDepth 100000 in
theorem km289_k : fx_chk TM 1 km289_c 3 km289_x t_X12_isDigit km289_a km289_s 11 = true := by decide +kernel
set_option maxRecDepth 100000 in
theorem km289 {l : Launch} {E : (Nat → Prop) → State → Prop} {ad : List Nat} {D : va_G} {cy : Nat → ClassId} (h : fx_env E D classes (tys cy) nestW) : fx_Met l yX12_isDigit (.code yX12_isDigit cX12_isDigit 1 (some .boolean) :: wsL_law) ({ frames := 0, cells := 0, slots := 0, locals := 0 }) E (gsM, TM, cy, fun _ => True) ad D classes km289_c :=
  fx_sound (x := km289_x) (tb := t_X12_isDigit) (an := km289_a) (sp := km289_s) (rk := 3) 11 h (fun _ _ _ _ _ _ => trivial) (fun _ _ _ _ _ _ => trivial) (ht_tys cy) (by decide) rfl ⟨fx_an, fx_an, fx_an, fx_an, fx_an, fx_an⟩ d_X12_isDigit km289_k
-- X12_isSign i
def km290_c : fx_C := ([.inl (0, 255)], [], [(some (.inl (1, 1)), [.inl (37, 62)], []), (some (.inl (0, 0)), [.inl (0, 255)], [])], [])
def km290_a : List fx_N := []
def km290_s : List fx_D := []
def km290_x : fx_X := ([], [], [], [], [], [])
set_option maxRecDepth 100000 in
theorem km290_k : fx_chk TM 1 km290_c 3 km290_x t_X12_isSign km290_a km290_s 38 = true := by decide +kernel
set_option maxRecDepth 100000 in
theorem km290 {l : Launch} {E : (Nat → Prop) → State → Prop} {ad : List Nat} {D : va_G} {cy : Nat → ClassId} (h : fx_env E D classes (tys cy) nestW) : fx_Met l yX12_isSign (.code yX12_isSign cX12_isSign 1 (some .boolean) :: wsL_law) ({ frames := 0, cells := 0, slots := 0, locals := 0 }) E (gsM, TM, cy, fun _ => True) ad D classes km290_c :=
  fx_sound (x := km290_x) (tb := t_X12_isSign) (an := km290_a) (sp := km290_s) (rk := 3) 38 h (fun _ _ _ _ _ _ => trivial) (fun _ _ _ _ _ _ => trivial) (ht_tys cy) (by decide) rfl ⟨fx_an, fx_an, fx_an, fx_an, fx_an, fx_an⟩ d_X12_isSign km290_k
