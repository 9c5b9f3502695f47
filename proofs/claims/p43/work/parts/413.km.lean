-- X12_drop 0 i ('c', 12) +
def km90_c : fx_C := ([.inr (.inr 1), .inl (0, 11)], [((0, 41), .inr (.inr 27)), ((2, 12), .inl (12, 12))], [(none, [.inr (.inr 1), .inl (0, 11)], [((0, 41), .inr (.inr 27)), ((2, 11), .inl (0, 0)), ((2, 12), .inl (11, 11))])], [(1000, 26)])
def km90_a : List fx_N := [(2, [(0, .inr (.inr 1)), (1, .inl (0, 11)), (2, .inl (0, 11))], [((0, 41), .inr (.inr 27)), ((3, 12), .inl (12, 12))], [(0, 0), (1, 2), (0, 0)], [(0, 0), (1, 1)])]
def km90_s : List fx_D := []
def km90_x : fx_X := ([], [(92, 12, 41)], [], [], [], [])
set_option maxRecDepth 100000 in
theorem km90_k : fx_chk TM 3 km90_c 9 km90_x t_X12_drop km90_a km90_s 29 = true := by decide +kernel
set_option maxRecDepth 100000 in
theorem km90 {l : Launch} {E : (Nat → Prop) → State → Prop} {ad : List Nat} {D : va_G} {cy : Nat → ClassId} (h : fx_env E D classes (tys cy) nestW) : fx_Met l yX12_drop (.code yX12_drop cX12_drop 3 none :: wsL_law) ({ frames := 0, cells := 0, slots := 0, locals := 0 }) E (gsM, TM, cy, fun _ => True) ad D classes km90_c :=
  fx_sound (x := km90_x) (tb := t_X12_drop) (an := km90_a) (sp := km90_s) (rk := 9) 29 h (fun _ _ _ _ _ _ => trivial) (fun _ _ _ _ _ _ => trivial) (ht_tys cy) (by decide) rfl ⟨fx_an, (fx_ac fl_X12_92 (fx_an)), fx_an, fx_an, fx_an, fx_an⟩ d_X12_drop km90_k
-- X12_senseOf 0 26 i
def km91_c : fx_C := ([.inr (.inr 1), .inr (.inr 27), .inl (0, 12)], [], [(some (.inl (-2147483648, 2147483647)), [.inr (.inr 1), .inr (.inr 27), .inl (0, 12)], [])], [])
def km91_a : List fx_N := [(5, [(0, .inr (.inr 1)), (1, .inr (.inr 27)), (2, .inl (0, 12)), (3, .inl (-2147483648, 2147483647)), (4, .inl (1, 12))], [], [(0, 0), (1, 4), (0, 0)], [(0, 0), (1, 1), (2, 2)])]
def km91_s : List fx_D := []
def km91_x : fx_X := ([], [], [], [], [], [(23, 350, 12, km18_c)])
set_option maxRecDepth 100000 in
theorem km91_k : fx_chk TM 5 km91_c 0 km91_x t_X12_senseOf km91_a km91_s 21 = true := by decide +kernel
set_option maxRecDepth 100000 in
theorem km91 {l : Launch} {E : (Nat → Prop) → State → Prop} {ad : List Nat} {D : va_G} {cy : Nat → ClassId} (h : fx_env E D classes (tys cy) nestW) : fx_Met l yX12_senseOf (.code yX12_senseOf cX12_senseOf 5 (some .int) :: wsL_law) ({ frames := 1, cells := 0, slots := 0, locals := 22 }) E (gsM, TM, cy, fun _ => True) ad D classes km91_c :=
  fx_sound (x := km91_x) (tb := t_X12_senseOf) (an := km91_a) (sp := km91_s) (rk := 0) 21 h (fun _ _ _ _ _ _ => trivial) (fun _ _ _ _ _ _ => trivial) (ht_tys cy) (by decide) rfl ⟨fx_an, fx_an, fx_an, fx_an, fx_an, (fx_ac (ev_V (km18 h) (by decide) rfl ⟨by decide, by decide⟩ iV_X12_besideTo g_X12_350) (fx_an))⟩ d_X12_senseOf km91_k
-- X12_markOf 0 27 i
def km92_c : fx_C := ([.inr (.inr 1), .inr (.inr 28), .inl (0, 12)], [], [(some (.inl (-2147483648, 2147483647)), [.inr (.inr 1), .inr (.inr 28), .inl (0, 12)], [])], [])
def km92_a : List fx_N := [(5, [(0, .inr (.inr 1)), (1, .inr (.inr 28)), (2, .inl (0, 12)), (3, .inl (-2147483648, 2147483647)), (4, .inl (0, 12))], [], [(0, 0), (1, 4), (0, 0)], [(0, 0), (1, 1), (2, 2)])]
def km92_s : List fx_D := []
def km92_x : fx_X := ([], [(39, 12, 17), (274, 12, 34)], [], [], [], [])
set_option maxRecDepth 100000 in
theorem km92_k : fx_chk TM 5 km92_c 0 km92_x t_X12_markOf km92_a km92_s 26 = true := by decide +kernel
set_option maxRecDepth 100000 in
theorem km92 {l : Launch} {E : (Nat → Prop) → State → Prop} {ad : List Nat} {D : va_G} {cy : Nat → ClassId} (h : fx_env E D classes (tys cy) nestW) : fx_Met l yX12_markOf (.code yX12_markOf cX12_markOf 5 (some .int) :: wsL_law) ({ frames := 0, cells := 0, slots := 0, locals := 0 }) E (gsM, TM, cy, fun _ => True) ad D classes km92_c :=
  fx_sound (x := km92_x) (tb := t_X12_markOf) (an := km92_a) (sp := km92_s) (rk := 0) 26 h (fun _ _ _ _ _ _ => trivial) (fun _ _ _ _ _ _ => trivial) (ht_tys cy) (by decide) rfl ⟨fx_an, (fx_ac fl_X12_39 (fx_ac fl_X12_274 (fx_an))), fx_an, fx_an, fx_an, fx_an⟩ d_X12_markOf km92_k
-- X12_mark 0 i
def km93_c : fx_C := ([.inr (.inr 1), .inl (-2147483648, 2147483647)], [], [(some (.inl (-2147483648, 2147483647)), [.inr (.inr 1), .inl (-1, 4)], []), (some (.inl (-1, -1)), [.inr (.inr 1), .inl (-2147483648, 2147483647)], [])], [(12, 45), (1000, 27)])
def km93_a : List fx_N := []
def km93_s : List fx_D := []
def km93_x : fx_X := ([], [(95, 12, 42), (384, 12, 45)], [], [], [], [(2, 396, 12, km12_c), (12, 403, 12, km21_c), (12, 403, 12, km23_c), (24, 504, 12, km92_c)])
set_option maxRecDepth 100000 in
theorem km93_k : fx_chk TM 2 km93_c 0 km93_x t_X12_mark km93_a km93_s 16 = true := by decide +kernel
set_option maxRecDepth 100000 in
theorem km93 {l : Launch} {E : (Nat → Prop) → State → Prop} {ad : List Nat} {D : va_G} {cy : Nat → ClassId} (h : fx_env E D classes (tys cy) nestW) : fx_Met l yX12_mark (.code yX12_mark cX12_mark 2 (some .int) :: wsL_law) ({ frames := 3, cells := 0, slots := 0, locals := 64 }) E (gsM, TM, cy, fun _ => True) ad D classes km93_c :=
  fx_sound (x := km93_x) (tb := t_X12_mark) (an := km93_a) (sp := km93_s) (rk := 0) 16 h (fun _ _ _ _ _ _ => trivial) (fun _ _ _ _ _ _ => trivial) (ht_tys cy) (by decide) rfl ⟨fx_an, (fx_ac fl_X12_95 (fx_ac fl_X12_384 (fx_an))), fx_an, fx_an, fx_an, (fx_ac (ev_V (km12 h) (by decide) rfl ⟨by decide, by decide⟩ iV_X12_isSlipOrRow g_X12_396) (fx_ac (ev_V (km21 h) (by decide) rfl ⟨by decide, by decide⟩ iV_X12_layOne g_X12_403) (fx_ac (ev_V (km23 h) (by decide) rfl ⟨by decide, by decide⟩ iV_X12_layOne g_X12_403) (fx_ac (ev_V (km92 h) (by decide) rfl ⟨by decide, by decide⟩ iV_X12_markOf g_X12_504) (fx_an)))))⟩ d_X12_mark km93_k
-- X12_isIn i i i (-2147483648, 2147483647) (0, 0) (99, 99)
def km94_c : fx_C := ([.inl (-2147483648, 2147483647), .inl (0, 0), .inl (99, 99)], [], [(some (.inl (1, 1)), [.inl (0, 99), .inl (0, 0), .inl (99, 99)], []), (some (.inl (0, 0)), [.inl (-2147483648, 2147483647), .inl (0, 0), .inl (99, 99)], [])], [])
def km94_a : List fx_N := []
def km94_s : List fx_D := []
def km94_x : fx_X := ([], [], [], [], [], [])
set_option maxRecDepth 100000 in
theorem km94_k : fx_chk TM 3 km94_c 3 km94_x t_X12_isIn km94_a km94_s 11 = true := by decide +kernel
set_option maxRecDepth 100000 in
theorem km94 {l : Launch} {E : (Nat → Prop) → State → Prop} {ad : List Nat} {D : va_G} {cy : Nat → ClassId} (h : fx_env E D classes (tys cy) nestW) : fx_Met l yX12_isIn (.code yX12_isIn cX12_isIn 3 (some .boolean) :: wsL_law) ({ frames := 0, cells := 0, slots := 0, locals := 0 }) E (gsM, TM, cy, fun _ => True) ad D classes km94_c :=
  fx_sound (x := km94_x) (tb := t_X12_isIn) (an := km94_a) (sp := km94_s) (rk := 3) 11 h (fun _ _ _ _ _ _ => trivial) (fun _ _ _ _ _ _ => trivial) (ht_tys cy) (by decide) rfl ⟨fx_an, fx_an, fx_an, fx_an, fx_an, fx_an⟩ d_X12_isIn km94_k
-- X12_layPutIn 0 i i ('c', 0)
def km95_c : fx_C := ([.inr (.inr 1), .inl (0, 0), .inl (0, 8)], [((0, 45), .inl (0, 11))], [(none, [.inr (.inr 1), .inl (0, 0), .inl (0, 8)], [((0, 46), .inl (1, 12))])], [(12, 46), (1000, 28)])
def km95_a : List fx_N := [(12, [(0, .inr (.inr 1)), (1, .inl (0, 0)), (2, .inl (0, 8)), (3, .inl (0, 12))], [((0, 45), .inl (0, 11)), ((0, 46), .inl (1, 12))], [(0, 0), (1, 3), (0, 0)], [(0, 0), (1, 1), (2, 2)])]
def km95_s : List fx_D := []
def km95_x : fx_X := ([], [(95, 12, 42), (98, 12, 43), (384, 12, 45), (390, 12, 46)], [(390, 12, 46, 0)], [], [], [])
set_option maxRecDepth 100000 in
theorem km95_k : fx_chk TM 4 km95_c 9 km95_x t_X12_layPutIn km95_a km95_s 25 = true := by decide +kernel
set_option maxRecDepth 100000 in
theorem km95 {l : Launch} {E : (Nat → Prop) → State → Prop} {ad : List Nat} {D : va_G} {cy : Nat → ClassId} (h : fx_env E D classes (tys cy) nestW) : fx_Met l yX12_layPutIn (.code yX12_layPutIn cX12_layPutIn 4 none :: wsL_law) ({ frames := 0, cells := 0, slots := 0, locals := 0 }) E (gsM, TM, cy, fun _ => True) ad D classes km95_c :=
  fx_sound (x := km95_x) (tb := t_X12_layPutIn) (an := km95_a) (sp := km95_s) (rk := 9) 25 h (fun _ _ _ _ _ _ => trivial) (fun _ _ _ _ _ _ => trivial) (ht_tys cy) (by decide) rfl ⟨fx_an, (fx_ac fl_X12_95 (fx_ac fl_X12_98 (fx_ac fl_X12_384 (fx_ac fl_X12_390 (fx_an))))), (fx_ac pl_X12_390 (fx_an)), fx_an, fx_an, fx_an⟩ d_X12_layPutIn km95_k
-- X12_markOf 0 28 i
def km96_c : fx_C := ([.inr (.inr 1), .inr (.inr 29), .inl (1, 12)], [], [(some (.inl (-2147483648, 2147483647)), [.inr (.inr 1), .inr (.inr 29), .inl (1, 12)], [])], [])
def km96_a : List fx_N := [(5, [(0, .inr (.inr 1)), (1, .inr (.inr 29)), (2, .inl (1, 12)), (3, .inl (-2147483648, 2147483647)), (4, .inl (0, 12))], [], [(0, 0), (1, 4), (0, 0)], [(0, 0), (1, 1), (2, 2)])]
def km96_s : List fx_D := []
def km96_x : fx_X := ([], [(39, 12, 17), (274, 12, 34)], [], [], [], [])
set_option maxRecDepth 100000 in
theorem km96_k : fx_chk TM 5 km96_c 0 km96_x t_X12_markOf km96_a km96_s 26 = true := by decide +kernel
set_option maxRecDepth 100000 in
theorem km96 {l : Launch} {E : (Nat → Prop) → State → Prop} {ad : List Nat} {D : va_G} {cy : Nat → ClassId} (h : fx_env E D classes (tys cy) nestW) : fx_Met l yX12_markOf (.code yX12_markOf cX12_markOf 5 (some .int) :: wsL_law) ({ frames := 0, cells := 0, slots := 0, locals := 0 }) E (gsM, TM, cy, fun _ => True) ad D classes km96_c :=
  fx_sound (x := km96_x) (tb := t_X12_markOf) (an := km96_a) (sp := km96_s) (rk := 0) 26 h (fun _ _ _ _ _ _ => trivial) (fun _ _ _ _ _ _ => trivial) (ht_tys cy) (by decide) rfl ⟨fx_an, (fx_ac fl_X12_39 (fx_ac fl_X12_274 (fx_an))), fx_an, fx_an, fx_an, fx_an⟩ d_X12_markOf km96_k
-- X12_isAheadOfLaid 0 i
def km97_c : fx_C := ([.inr (.inr 1), .inl (1, 12)], [], [(some (.inl (1, 1)), [.inr (.inr 1), .inl (1, 12)], []), (some (.inl (0, 0)), [.inr (.inr 1), .inl (1, 12)], [])], [])
def km97_a : List fx_N := [(2, [(0, .inr (.inr 1)), (1, .inl (1, 12)), (2, .inl (0, 12))], [], [(0, 0), (1, 2), (0, 0)], [(0, 0), (1, 1)])]
def km97_s : List fx_D := []
def km97_x : fx_X := ([], [(98, 12, 43), (116, 12, 54)], [], [], [], [])
set_option maxRecDepth 100000 in
theorem km97_k : fx_chk TM 3 km97_c 3 km97_x t_X12_isAheadOfLaid km97_a km97_s 26 = true := by decide +kernel
set_option maxRecDepth 100000 in
theorem km97 {l : Launch} {E : (Nat → Prop) → State → Prop} {ad : List Nat} {D : va_G} {cy : Nat → ClassId} (h : fx_env E D classes (tys cy) nestW) : fx_Met l yX12_isAheadOfLaid (.code yX12_isAheadOfLaid cX12_isAheadOfLaid 3 (some .boolean) :: wsL_law) ({ frames := 0, cells := 0, slots := 0, locals := 0 }) E (gsM, TM, cy, fun _ => True) ad D classes km97_c :=
  fx_sound (x := km97_x) (tb := t_X12_isAheadOfLaid) (an := km97_a) (sp := km97_s) (rk := 3) 26 h (fun _ _ _ _ _ _ => trivial) (fun _ _ _ _ _ _ => trivial) (ht_tys cy) (by decide) rfl ⟨fx_an, (fx_ac fl_X12_98 (fx_ac fl_X12_116 (fx_an))), fx_an, fx_an, fx_an, fx_an⟩ d_X12_isAheadOfLaid km97_k
-- X12_layPutIn 0 i i ('c', 1)
def km98_c : fx_C := ([.inr (.inr 1), .inl (1, 1), .inl (0, 8)], [((0, 45), .inl (1, 11))], [(none, [.inr (.inr 1), .inl (1, 1), .inl (0, 8)], [((0, 46), .inl (2, 12))])], [(12, 46), (1000, 28)])
def km98_a : List fx_N := [(12, [(0, .inr (.inr 1)), (1, .inl (1, 1)), (2, .inl (0, 8)), (3, .inl (0, 12))], [((0, 45), .inl (1, 11)), ((0, 46), .inl (2, 12))], [(0, 0), (1, 3), (0, 0)], [(0, 0), (1, 1), (2, 2)])]
def km98_s : List fx_D := []
def km98_x : fx_X := ([], [(95, 12, 42), (98, 12, 43), (384, 12, 45), (390, 12, 46)], [(390, 12, 46, 0)], [], [], [])
set_option maxRecDepth 100000 in
theorem km98_k : fx_chk TM 4 km98_c 9 km98_x t_X12_layPutIn km98_a km98_s 25 = true := by decide +kernel
set_option maxRecDepth 100000 in
theorem km98 {l : Launch} {E : (Nat → Prop) → State → Prop} {ad : List Nat} {D : va_G} {cy : Nat → ClassId} (h : fx_env E D classes (tys cy) nestW) : fx_Met l yX12_layPutIn (.code yX12_layPutIn cX12_layPutIn 4 none :: wsL_law) ({ frames := 0, cells := 0, slots := 0, locals := 0 }) E (gsM, TM, cy, fun _ => True) ad D classes km98_c :=
  fx_sound (x := km98_x) (tb := t_X12_layPutIn) (an := km98_a) (sp := km98_s) (rk := 9) 25 h (fun _ _ _ _ _ _ => trivial) (fun _ _ _ _ _ _ => trivial) (ht_tys cy) (by decide) rfl ⟨fx_an, (fx_ac fl_X12_95 (fx_ac fl_X12_98 (fx_ac fl_X12_384 (fx_ac fl_X12_390 (fx_an))))), (fx_ac pl_X12_390 (fx_an)), fx_an, fx_an, fx_an⟩ d_X12_layPutIn km98_k
-- X12_layPutIn 0 i i ('c', 2)
def km99_c : fx_C := ([.inr (.inr 1), .inl (2, 2), .inl (0, 8)], [((0, 45), .inl (2, 11))], [(none, [.inr (.inr 1), .inl (2, 2), .inl (0, 8)], [((0, 46), .inl (3, 12))])], [(12, 46), (1000, 28)])
def km99_a : List fx_N := [(12, [(0, .inr (.inr 1)), (1, .inl (2, 2)), (2, .inl (0, 8)), (3, .inl (0, 12))], [((0, 45), .inl (2, 11)), ((0, 46), .inl (3, 12))], [(0, 0), (1, 3), (0, 0)], [(0, 0), (1, 1), (2, 2)])]
def km99_s : List fx_D := []
def km99_x : fx_X := ([], [(95, 12, 42), (98, 12, 43), (384, 12, 45), (390, 12, 46)], [(390, 12, 46, 0)], [], [], [])
set_option maxRecDepth 100000 in
theorem km99_k : fx_chk TM 4 km99_c 9 km99_x t_X12_layPutIn km99_a km99_s 25 = true := by decide +kernel
set_option maxRecDepth 100000 in
theorem km99 {l : Launch} {E : (Nat → Prop) → State → Prop} {ad : List Nat} {D : va_G} {cy : Nat → ClassId} (h : fx_env E D classes (tys cy) nestW) : fx_Met l yX12_layPutIn (.code yX12_layPutIn cX12_layPutIn 4 none :: wsL_law) ({ frames := 0, cells := 0, slots := 0, locals := 0 }) E (gsM, TM, cy, fun _ => True) ad D classes km99_c :=
  fx_sound (x := km99_x) (tb := t_X12_layPutIn) (an := km99_a) (sp := km99_s) (rk := 9) 25 h (fun _ _ _ _ _ _ => trivial) (fun _ _ _ _ _ _ => trivial) (ht_tys cy) (by decide) rfl ⟨fx_an, (fx_ac fl_X12_95 (fx_ac fl_X12_98 (fx_ac fl_X12_384 (fx_ac fl_X12_390 (fx_an))))), (fx_ac pl_X12_390 (fx_an)), fx_an, fx_an, fx_an⟩ d_X12_layPutIn km99_k
-- X12_layPutIn 0 i i ('c', 3)
def km100_c : fx_C := ([.inr (.inr 1), .inl (3, 3), .inl (0, 8)], [((0, 45), .inl (3, 11))], [(none, [.inr (.inr 1), .inl (3, 3), .inl (0, 8)], [((0, 46), .inl (4, 12))])], [(12, 46), (1000, 28)])
def km100_a : List fx_N := [(12, [(0, .inr (.inr 1)), (1, .inl (3, 3)), (2, .inl (0, 8)), (3, .inl (0, 12))], [((0, 45), .inl (3, 11)), ((0, 46), .inl (4, 12))], [(0, 0), (1, 3), (0, 0)], [(0, 0), (1, 1), (2, 2)])]
def km100_s : List fx_D := []
def km100_x : fx_X := ([], [(95, 12, 42), (98, 12, 43), (384, 12, 45), (390, 12, 46)], [(390, 12, 46, 0)], [], [], [])
set_option maxRecDepth 100000 in
theorem km100_k : fx_chk TM 4 km100_c 9 km100_x t_X12_layPutIn km100_a km100_s 25 = true := by decide +kernel
set_option maxRecDepth 100000 in
theorem km100 {l : Launch} {E : (Nat → Prop) → State → Prop} {ad : List Nat} {D : va_G} {cy : Nat → ClassId} (h : fx_env E D classes (tys cy) nestW) : fx_Met l yX12_layPutIn (.code yX12_layPutIn cX12_layPutIn 4 none :: wsL_law) ({ frames := 0, cells := 0, slots := 0, locals := 0 }) E (gsM, TM, cy, fun _ => True) ad D classes km100_c :=
  fx_sound (x := km100_x) (tb := t_X12_layPutIn) (an := km100_a) (sp := km100_s) (rk := 9) 25 h (fun _ _ _ _ _ _ => trivial) (fun _ _ _ _ _ _ => trivial) (ht_tys cy) (by decide) rfl ⟨fx_an, (fx_ac fl_X12_95 (fx_ac fl_X12_98 (fx_ac fl_X12_384 (fx_ac fl_X12_390 (fx_an))))), (fx_ac pl_X12_390 (fx_an)), fx_an, fx_an, fx_an⟩ d_X12_layPutIn km100_k
-- X12_layPutIn 0 i i ('c', 4)
def km101_c : fx_C := ([.inr (.inr 1), .inl (4, 4), .inl (0, 8)], [((0, 45), .inl (4, 11))], [(none, [.inr (.inr 1), .inl (4, 4), .inl (0, 8)], [((0, 46), .inl (5, 12))])], [(12, 46), (1000, 28)])
def km101_a : List fx_N := [(12, [(0, .inr (.inr 1)), (1, .inl (4, 4)), (2, .inl (0, 8)), (3, .inl (0, 12))], [((0, 45), .inl (4, 11)), ((0, 46), .inl (5, 12))], [(0, 0), (1, 3), (0, 0)], [(0, 0), (1, 1), (2, 2)])]
def km101_s : List fx_D := []
def km101_x : fx_X := ([], [(95, 12, 42), (98, 12, 43), (384, 12, 45), (390, 12, 46)], [(390, 12, 46, 0)], [], [], [])
set_option maxRecDepth 100000 in
theorem km101_k : fx_chk TM 4 km101_c 9 km101_x t_X12_layPutIn km101_a km101_s 25 = true := by decide +kernel
set_option maxRecDepth 100000 in
theorem km101 {l : Launch} {E : (Nat → Prop) → State → Prop} {ad : List Nat} {D : va_G} {cy : Nat → ClassId} (h : fx_env E D classes (tys cy) nestW) : fx_Met l yX12_layPutIn (.code yX12_layPutIn cX12_layPutIn 4 none :: wsL_law) ({ frames := 0, cells := 0, slots := 0, locals := 0 }) E (gsM, TM, cy, fun _ => True) ad D classes km101_c :=
  fx_sound (x := km101_x) (tb := t_X12_layPutIn) (an := km101_a) (sp := km101_s) (rk := 9) 25 h (fun _ _ _ _ _ _ => trivial) (fun _ _ _ _ _ _ => trivial) (ht_tys cy) (by decide) rfl ⟨fx_an, (fx_ac fl_X12_95 (fx_ac fl_X12_98 (fx_ac fl_X12_384 (fx_ac fl_X12_390 (fx_an))))), (fx_ac pl_X12_390 (fx_an)), fx_an, fx_an, fx_an⟩ d_X12_layPutIn km101_k
-- X12_layPutIn 0 i i ('c', 5)
def km102_c : fx_C := ([.inr (.inr 1), .inl (5, 5), .inl (0, 8)], [((0, 45), .inl (5, 11))], [(none, [.inr (.inr 1), .inl (5, 5), .inl (0, 8)], [((0, 46), .inl (6, 12))])], [(12, 46), (1000, 28)])
def km102_a : List fx_N := [(12, [(0, .inr (.inr 1)), (1, .inl (5, 5)), (2, .inl (0, 8)), (3, .inl (0, 12))], [((0, 45), .inl (5, 11)), ((0, 46), .inl (6, 12))], [(0, 0), (1, 3), (0, 0)], [(0, 0), (1, 1), (2, 2)])]
def km102_s : List fx_D := []
def km102_x : fx_X := ([], [(95, 12, 42), (98, 12, 43), (384, 12, 45), (390, 12, 46)], [(390, 12, 46, 0)], [], [], [])
set_option maxRecDepth 100000 in
theorem km102_k : fx_chk TM 4 km102_c 9 km102_x t_X12_layPutIn km102_a km102_s 25 = true := by decide +kernel
set_option maxRecDepth 100000 in
theorem km102 {l : Launch} {E : (Nat → Prop) → State → Prop} {ad : List Nat} {D : va_G} {cy : Nat → ClassId} (h : fx_env E D classes (tys cy) nestW) : fx_Met l yX12_layPutIn (.code yX12_layPutIn cX12_layPutIn 4 none :: wsL_law) ({ frames := 0, cells := 0, slots := 0, locals := 0 }) E (gsM, TM, cy, fun _ => True) ad D classes km102_c :=
  fx_sound (x := km102_x) (tb := t_X12_layPutIn) (an := km102_a) (sp := km102_s) (rk := 9) 25 h (fun _ _ _ _ _ _ => trivial) (fun _ _ _ _ _ _ => trivial) (ht_tys cy) (by decide) rfl ⟨fx_an, (fx_ac fl_X12_95 (fx_ac fl_X12_98 (fx_ac fl_X12_384 (fx_ac fl_X12_390 (fx_an))))), (fx_ac pl_X12_390 (fx_an)), fx_an, fx_an, fx_an⟩ d_X12_layPutIn km102_k
-- X12_layPutIn 0 i i ('c', 6)
def km103_c : fx_C := ([.inr (.inr 1), .inl (6, 6), .inl (0, 8)], [((0, 45), .inl (6, 11))], [(none, [.inr (.inr 1), .inl (6, 6), .inl (0, 8)], [((0, 46), .inl (7, 12))])], [(12, 46), (1000, 28)])
def km103_a : List fx_N := [(12, [(0, .inr (.inr 1)), (1, .inl (6, 6)), (2, .inl (0, 8)), (3, .inl (0, 12))], [((0, 45), .inl (6, 11)), ((0, 46), .inl (7, 12))], [(0, 0), (1, 3), (0, 0)], [(0, 0), (1, 1), (2, 2)])]
def km103_s : List fx_D := []
def km103_x : fx_X := ([], [(95, 12, 42), (98, 12, 43), (384, 12, 45), (390, 12, 46)], [(390, 12, 46, 0)], [], [], [])
set_option maxRecDepth 100000 in
theorem km103_k : fx_chk TM 4 km103_c 9 km103_x t_X12_layPutIn km103_a km103_s 25 = true := by decide +kernel
set_option maxRecDepth 100000 in
theorem km103 {l : Launch} {E : (Nat → Prop) → State → Prop} {ad : List Nat} {D : va_G} {cy : Nat → ClassId} (h : fx_env E D classes (tys cy) nestW) : fx_Met l yX12_layPutIn (.code yX12_layPutIn cX12_layPutIn 4 none :: wsL_law) ({ frames := 0, cells := 0, slots := 0, locals := 0 }) E (gsM, TM, cy, fun _ => True) ad D classes km103_c :=
  fx_sound (x := km103_x) (tb := t_X12_layPutIn) (an := km103_a) (sp := km103_s) (rk := 9) 25 h (fun _ _ _ _ _ _ => trivial) (fun _ _ _ _ _ _ => trivial) (ht_tys cy) (by decide) rfl ⟨fx_an, (fx_ac fl_X12_95 (fx_ac fl_X12_98 (fx_ac fl_X12_384 (fx_ac fl_X12_390 (fx_an))))), (fx_ac pl_X12_390 (fx_an)), fx_an, fx_an, fx_an⟩ d_X12_layPutIn km103_k
-- X12_layPutIn 0 i i ('c', 7)
def km104_c : fx_C := ([.inr (.inr 1), .inl (7, 7), .inl (0, 8)], [((0, 45), .inl (7, 11))], [(none, [.inr (.inr 1), .inl (7, 7), .inl (0, 8)], [((0, 46), .inl (8, 12))])], [(12, 46), (1000, 28)])
def km104_a : List fx_N := [(12, [(0, .inr (.inr 1)), (1, .inl (7, 7)), (2, .inl (0, 8)), (3, .inl (0, 12))], [((0, 45), .inl (7, 11)), ((0, 46), .inl (8, 12))], [(0, 0), (1, 3), (0, 0)], [(0, 0), (1, 1), (2, 2)])]
def km104_s : List fx_D := []
def km104_x : fx_X := ([], [(95, 12, 42), (98, 12, 43), (384, 12, 45), (390, 12, 46)], [(390, 12, 46, 0)], [], [], [])
set_option maxRecDepth 100000 in
theorem km104_k : fx_chk TM 4 km104_c 9 km104_x t_X12_layPutIn km104_a km104_s 25 = true := by decide +kernel
set_option maxRecDepth 100000 in
theorem km104 {l : Launch} {E : (Nat → Prop) → State → Prop} {ad : List Nat} {D : va_G} {cy : Nat → ClassId} (h : fx_env E D classes (tys cy) nestW) : fx_Met l yX12_layPutIn (.code yX12_layPutIn cX12_layPutIn 4 none :: wsL_law) ({ frames := 0, cells := 0, slots := 0, locals := 0 }) E (gsM, TM, cy, fun _ => True) ad D classes km104_c :=
  fx_sound (x := km104_x) (tb := t_X12_layPutIn) (an := km104_a) (sp := km104_s) (rk := 9) 25 h (fun _ _ _ _ _ _ => trivial) (fun _ _ _ _ _ _ => trivial) (ht_tys cy) (by decide) rfl ⟨fx_an, (fx_ac fl_X12_95 (fx_ac fl_X12_98 (fx_ac fl_X12_384 (fx_ac fl_X12_390 (fx_an))))), (fx_ac pl_X12_390 (fx_an)), fx_an, fx_an, fx_an⟩ d_X12_layPutIn km104_k
-- X12_layPutIn 0 i i ('c', 8)
def km105_c : fx_C := ([.inr (.inr 1), .inl (8, 8), .inl (0, 8)], [((0, 45), .inl (8, 11))], [(none, [.inr (.inr 1), .inl (8, 8), .inl (0, 8)], [((0, 46), .inl (9, 12))])], [(12, 46), (1000, 28)])
def km105_a : List fx_N := [(12, [(0, .inr (.inr 1)), (1, .inl (8, 8)), (2, .inl (0, 8)), (3, .inl (0, 12))], [((0, 45), .inl (8, 11)), ((0, 46), .inl (9, 12))], [(0, 0), (1, 3), (0, 0)], [(0, 0), (1, 1), (2, 2)])]
def km105_s : List fx_D := []
def km105_x : fx_X := ([], [(95, 12, 42), (98, 12, 43), (384, 12, 45), (390, 12, 46)], [(390, 12, 46, 0)], [], [], [])
set_option maxRecDepth 100000 in
theorem km105_k : fx_chk TM 4 km105_c 9 km105_x t_X12_layPutIn km105_a km105_s 25 = true := by decide +kernel
set_option maxRecDepth 100000 in
theorem km105 {l : Launch} {E : (Nat → Prop) → State → Prop} {ad : List Nat} {D : va_G} {cy : Nat → ClassId} (h : fx_env E D classes (tys cy) nestW) : fx_Met l yX12_layPutIn (.code yX12_layPutIn cX12_layPutIn 4 none :: wsL_law) ({ frames := 0, cells := 0, slots := 0, locals := 0 }) E (gsM, TM, cy, fun _ => True) ad D classes km105_c :=
  fx_sound (x := km105_x) (tb := t_X12_layPutIn) (an := km105_a) (sp := km105_s) (rk := 9) 25 h (fun _ _ _ _ _ _ => trivial) (fun _ _ _ _ _ _ => trivial) (ht_tys cy) (by decide) rfl ⟨fx_an, (fx_ac fl_X12_95 (fx_ac fl_X12_98 (fx_ac fl_X12_384 (fx_ac fl_X12_390 (fx_an))))), (fx_ac pl_X12_390 (fx_an)), fx_an, fx_an, fx_an⟩ d_X12_layPutIn km105_k
-- X12_layPutIn 0 i i ('c', 9)
def km106_c : fx_C := ([.inr (.inr 1), .inl (9, 9), .inl (0, 8)], [((0, 45), .inl (9, 11))], [(none, [.inr (.inr 1), .inl (9, 9), .inl (0, 8)], [((0, 46), .inl (10, 12))])], [(12, 46), (1000, 28)])
def km106_a : List fx_N := [(12, [(0, .inr (.inr 1)), (1, .inl (9, 9)), (2, .inl (0, 8)), (3, .inl (0, 12))], [((0, 45), .inl (9, 11)), ((0, 46), .inl (10, 12))], [(0, 0), (1, 3), (0, 0)], [(0, 0), (1, 1), (2, 2)])]
def km106_s : List fx_D := []
def km106_x : fx_X := ([], [(95, 12, 42), (98, 12, 43), (384, 12, 45), (390, 12, 46)], [(390, 12, 46, 0)], [], [], [])
set_option maxRecDepth 100000 in
theorem km106_k : fx_chk TM 4 km106_c 9 km106_x t_X12_layPutIn km106_a km106_s 25 = true := by decide +kernel
set_option maxRecDepth 100000 in
theorem km106 {l : Launch} {E : (Nat → Prop) → State → Prop} {ad : List Nat} {D : va_G} {cy : Nat → ClassId} (h : fx_env E D classes (tys cy) nestW) : fx_Met l yX12_layPutIn (.code yX12_layPutIn cX12_layPutIn 4 none :: wsL_law) ({ frames := 0, cells := 0, slots := 0, locals := 0 }) E (gsM, TM, cy, fun _ => True) ad D classes km106_c :=
  fx_sound (x := km106_x) (tb := t_X12_layPutIn) (an := km106_a) (sp := km106_s) (rk := 9) 25 h (fun _ _ _ _ _ _ => trivial) (fun _ _ _ _ _ _ => trivial) (ht_tys cy) (by decide) rfl ⟨fx_an, (fx_ac fl_X12_95 (fx_ac fl_X12_98 (fx_ac fl_X12_384 (fx_ac fl_X12_390 (fx_an))))), (fx_ac pl_X12_390 (fx_an)), fx_an, fx_an, fx_an⟩ d_X12_layPutIn km106_k
-- X12_layPutIn 0 i i ('c', 10)
def km107_c : fx_C := ([.inr (.inr 1), .inl (10, 10), .inl (0, 8)], [((0, 45), .inl (10, 11))], [(none, [.inr (.inr 1), .inl (10, 10), .inl (0, 8)], [((0, 46), .inl (11, 12))])], [(12, 46), (1000, 28)])
def km107_a : List fx_N := [(12, [(0, .inr (.inr 1)), (1, .inl (10, 10)), (2, .inl (0, 8)), (3, .inl (0, 12))], [((0, 45), .inl (10, 11)), ((0, 46), .inl (11, 12))], [(0, 0), (1, 3), (0, 0)], [(0, 0), (1, 1), (2, 2)])]
def km107_s : List fx_D := []
def km107_x : fx_X := ([], [(95, 12, 42), (98, 12, 43), (384, 12, 45), (390, 12, 46)], [(390, 12, 46, 0)], [], [], [])
set_option maxRecDepth 100000 in
theorem km107_k : fx_chk TM 4 km107_c 9 km107_x t_X12_layPutIn km107_a km107_s 25 = true := by decide +kernel
set_option maxRecDepth 100000 in
theorem km107 {l : Launch} {E : (Nat → Prop) → State → Prop} {ad : List Nat} {D : va_G} {cy : Nat → ClassId} (h : fx_env E D classes (tys cy) nestW) : fx_Met l yX12_layPutIn (.code yX12_layPutIn cX12_layPutIn 4 none :: wsL_law) ({ frames := 0, cells := 0, slots := 0, locals := 0 }) E (gsM, TM, cy, fun _ => True) ad D classes km107_c :=
  fx_sound (x := km107_x) (tb := t_X12_layPutIn) (an := km107_a) (sp := km107_s) (rk := 9) 25 h (fun _ _ _ _ _ _ => trivial) (fun _ _ _ _ _ _ => trivial) (ht_tys cy) (by decide) rfl ⟨fx_an, (fx_ac fl_X12_95 (fx_ac fl_X12_98 (fx_ac fl_X12_384 (fx_ac fl_X12_390 (fx_an))))), (fx_ac pl_X12_390 (fx_an)), fx_an, fx_an, fx_an⟩ d_X12_layPutIn km107_k
-- X12_layPutIn 0 i i ('c', 11)
def km108_c : fx_C := ([.inr (.inr 1), .inl (11, 11), .inl (0, 8)], [((0, 45), .inl (11, 11))], [(none, [.inr (.inr 1), .inl (11, 11), .inl (0, 8)], [((0, 46), .inl (12, 12))])], [(12, 46), (1000, 28)])
def km108_a : List fx_N := [(12, [(0, .inr (.inr 1)), (1, .inl (11, 11)), (2, .inl (0, 8)), (3, .inl (0, 12))], [((0, 45), .inl (11, 11)), ((0, 46), .inl (12, 12))], [(0, 0), (1, 3), (0, 0)], [(0, 0), (1, 1), (2, 2)])]
def km108_s : List fx_D := []
def km108_x : fx_X := ([], [(95, 12, 42), (98, 12, 43), (384, 12, 45), (390, 12, 46)], [(390, 12, 46, 0)], [], [], [])
set_option maxRecDepth 100000 in
theorem km108_k : fx_chk TM 4 km108_c 9 km108_x t_X12_layPutIn km108_a km108_s 21 = true := by decide +kernel
set_option maxRecDepth 100000 in
theorem km108 {l : Launch} {E : (Nat → Prop) → State → Prop} {ad : List Nat} {D : va_G} {cy : Nat → ClassId} (h : fx_env E D classes (tys cy) nestW) : fx_Met l yX12_layPutIn (.code yX12_layPutIn cX12_layPutIn 4 none :: wsL_law) ({ frames := 0, cells := 0, slots := 0, locals := 0 }) E (gsM, TM, cy, fun _ => True) ad D classes km108_c :=
  fx_sound (x := km108_x) (tb := t_X12_layPutIn) (an := km108_a) (sp := km108_s) (rk := 9) 21 h (fun _ _ _ _ _ _ => trivial) (fun _ _ _ _ _ _ => trivial) (ht_tys cy) (by decide) rfl ⟨fx_an, (fx_ac fl_X12_95 (fx_ac fl_X12_98 (fx_ac fl_X12_384 (fx_ac fl_X12_390 (fx_an))))), (fx_ac pl_X12_390 (fx_an)), fx_an, fx_an, fx_an⟩ d_X12_layPutIn km108_k
