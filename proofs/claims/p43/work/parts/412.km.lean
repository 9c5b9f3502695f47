-- X12_apart 0 i i
def km73_c : fx_C := ([.inr (.inr 1), .inl (-2147483648, 2147483647), .inl (-2147483648, 2147483647)], [], [(some (.inl (-1, -1)), [.inr (.inr 1), .inl (-2147483648, 2147483647), .inl (-2147483648, 2147483647)], []), (some (.inl (-2147483648, 2147483647)), [.inr (.inr 1), .inl (-1, 4), .inl (-1, 4)], [])], [(12, 45), (12, 46), (1000, 27), (1000, 28), (1000, 36)])
def km73_a : List fx_N := [(33, [(0, .inr (.inr 1)), (1, .inl (-1, 4)), (2, .inl (-1, 4)), (3, .inl (-1, 12))], [], [(0, 0), (2, 3), (0, 1), (0, 0), (0, 0)], [(0, 0), (1, 1), (2, 2)]), (43, [(0, .inr (.inr 1)), (1, .inl (-1, 4)), (2, .inl (-1, 4)), (3, .inl (0, 12)), (4, .inl (-1, 12))], [], [(0, 0), (2, 3), (0, 0), (2, 4), (0, 0)], [(0, 0), (1, 1), (2, 2)])]
def km73_s : List fx_D := []
def km73_x : fx_X := ([], [(95, 12, 42), (98, 12, 43), (122, 12, 57), (384, 12, 45), (390, 12, 46)], [], [], [], [(2, 396, 12, km12_c), (10, 396, 12, km12_c), (20, 403, 12, km21_c), (20, 403, 12, km23_c), (25, 431, 12, km41_c), (25, 431, 12, km43_c)])
set_option maxRecDepth 100000 in
theorem km73_k : fx_chk TM 9 km73_c 0 km73_x t_X12_apart km73_a km73_s 97 = true := by decide +kernel
set_option maxRecDepth 100000 in
theorem km73 {l : Launch} {E : (Nat → Prop) → State → Prop} {ad : List Nat} {D : va_G} {cy : Nat → ClassId} (h : fx_env E D classes (tys cy) nestW) : fx_Met l yX12_apart (.code yX12_apart cX12_apart 9 (some .int) :: wsL_law) ({ frames := 3, cells := 0, slots := 0, locals := 64 }) E (gsM, TM, cy, fun _ => True) ad D classes km73_c :=
  fx_sound (x := km73_x) (tb := t_X12_apart) (an := km73_a) (sp := km73_s) (rk := 0) 97 h (fun _ _ _ _ _ _ => trivial) (fun _ _ _ _ _ _ => trivial) (ht_tys cy) (by decide) rfl ⟨fx_an, (fx_ac fl_X12_95 (fx_ac fl_X12_98 (fx_ac fl_X12_122 (fx_ac fl_X12_384 (fx_ac fl_X12_390 (fx_an)))))), fx_an, fx_an, fx_an, (fx_ac (ev_V (km12 h) (by decide) rfl ⟨by decide, by decide⟩ iV_X12_isSlipOrRow g_X12_396) (fx_ac (ev_V (km12 h) (by decide) rfl ⟨by decide, by decide⟩ iV_X12_isSlipOrRow g_X12_396) (fx_ac (ev_V (km21 h) (by decide) rfl ⟨by decide, by decide⟩ iV_X12_layOne g_X12_403) (fx_ac (ev_V (km23 h) (by decide) rfl ⟨by decide, by decide⟩ iV_X12_layOne g_X12_403) (fx_ac (ev_V (km41 h) (by decide) rfl ⟨by decide, by decide⟩ iV_X12_layTwo g_X12_431) (fx_ac (ev_V (km43 h) (by decide) rfl ⟨by decide, by decide⟩ iV_X12_layTwo g_X12_431) (fx_an)))))))⟩ d_X12_apart km73_k
-- X12_layShared 0
def km74_c : fx_C := ([.inr (.inr 1)], [], [(none, [.inr (.inr 1)], [])], [(1000, 35)])
def km74_a : List fx_N := [(5, [(0, .inr (.inr 1)), (1, .inl (-1, 12))], [], [(0, 0), (2, 1), (0, 1), (0, 0), (0, 0)], [(0, 0)]), (14, [(0, .inr (.inr 1)), (1, .inl (0, 12)), (2, .inl (-1, 12))], [], [(0, 0), (2, 1), (0, 0), (2, 2), (0, 0)], [(0, 0)])]
def km74_s : List fx_D := []
def km74_x : fx_X := ([], [(95, 12, 42), (98, 12, 43), (119, 12, 56), (384, 12, 45), (390, 12, 46)], [], [], [], [])
set_option maxRecDepth 100000 in
theorem km74_k : fx_chk TM 6 km74_c 9 km74_x t_X12_layShared km74_a km74_s 73 = true := by decide +kernel
set_option maxRecDepth 100000 in
theorem km74 {l : Launch} {E : (Nat → Prop) → State → Prop} {ad : List Nat} {D : va_G} {cy : Nat → ClassId} (h : fx_env E D classes (tys cy) nestW) : fx_Met l yX12_layShared (.code yX12_layShared cX12_layShared 6 none :: wsL_law) ({ frames := 0, cells := 0, slots := 0, locals := 0 }) E (gsM, TM, cy, fun _ => True) ad D classes km74_c :=
  fx_sound (x := km74_x) (tb := t_X12_layShared) (an := km74_a) (sp := km74_s) (rk := 9) 73 h (fun _ _ _ _ _ _ => trivial) (fun _ _ _ _ _ _ => trivial) (ht_tys cy) (by decide) rfl ⟨fx_an, (fx_ac fl_X12_95 (fx_ac fl_X12_98 (fx_ac fl_X12_119 (fx_ac fl_X12_384 (fx_ac fl_X12_390 (fx_an)))))), fx_an, fx_an, fx_an, fx_an⟩ d_X12_layShared km74_k
-- X12_strange 0 i
def km75_c : fx_C := ([.inr (.inr 1), .inl (-2147483648, 2147483647)], [], [(some (.inl (-2147483648, 2147483647)), [.inr (.inr 1), .inl (0, 4)], [((0, 45), .inl (0, 8))]), (some (.inl (-1, -1)), [.inr (.inr 1), .inl (-2147483648, 2147483647)], [])], [(12, 45), (12, 46), (1000, 27), (1000, 28), (1000, 35)])
def km75_a : List fx_N := []
def km75_s : List fx_D := []
def km75_x : fx_X := ([], [(119, 12, 56), (384, 12, 45)], [], [], [], [(2, 363, 12, km7_c), (12, 403, 12, km23_c), (17, 431, 12, km41_c), (21, 467, 12, km74_c)])
set_option maxRecDepth 100000 in
theorem km75_k : fx_chk TM 2 km75_c 0 km75_x t_X12_strange km75_a km75_s 22 = true := by decide +kernel
set_option maxRecDepth 100000 in
theorem km75 {l : Launch} {E : (Nat → Prop) → State → Prop} {ad : List Nat} {D : va_G} {cy : Nat → ClassId} (h : fx_env E D classes (tys cy) nestW) : fx_Met l yX12_strange (.code yX12_strange cX12_strange 2 (some .int) :: wsL_law) ({ frames := 2, cells := 0, slots := 0, locals := 44 }) E (gsM, TM, cy, fun _ => True) ad D classes km75_c :=
  fx_sound (x := km75_x) (tb := t_X12_strange) (an := km75_a) (sp := km75_s) (rk := 0) 22 h (fun _ _ _ _ _ _ => trivial) (fun _ _ _ _ _ _ => trivial) (ht_tys cy) (by decide) rfl ⟨fx_an, (fx_ac fl_X12_119 (fx_ac fl_X12_384 (fx_an))), fx_an, fx_an, fx_an, (fx_ac (ev_V (km7 h) (by decide) rfl ⟨by decide, by decide⟩ iV_X12_isSlip g_X12_363) (fx_ac (ev_V (km23 h) (by decide) rfl ⟨by decide, by decide⟩ iV_X12_layOne g_X12_403) (fx_ac (ev_V (km41 h) (by decide) rfl ⟨by decide, by decide⟩ iV_X12_layTwo g_X12_431) (fx_ac (ev_V (km74 h) (by decide) rfl ⟨by decide, by decide⟩ iV_X12_layShared g_X12_467) (fx_an)))))⟩ d_X12_strange km75_k
-- X12_keepNow 0
def km76_c : fx_C := ([.inr (.inr 1)], [], [(none, [.inr (.inr 1)], [])], [(1000, 38)])
def km76_a : List fx_N := [(2, [(1, .inl (0, 0)), (0, .inr (.inr 1))], [], [(0, 15)], [(0, 1)]), (2, [(1, .inl (1, 1)), (0, .inr (.inr 1))], [], [(0, 14)], [(0, 1)]), (2, [(1, .inl (2, 2)), (0, .inr (.inr 1))], [], [(0, 13)], [(0, 1)]), (2, [(1, .inl (3, 3)), (0, .inr (.inr 1))], [], [(0, 12)], [(0, 1)]), (2, [(1, .inl (4, 4)), (0, .inr (.inr 1))], [], [(0, 11)], [(0, 1)]), (2, [(1, .inl (5, 5)), (0, .inr (.inr 1))], [], [(0, 10)], [(0, 1)]), (2, [(1, .inl (6, 6)), (0, .inr (.inr 1))], [], [(0, 9)], [(0, 1)]), (2, [(1, .inl (7, 7)), (0, .inr (.inr 1))], [], [(0, 8)], [(0, 1)]), (2, [(1, .inl (8, 8)), (0, .inr (.inr 1))], [], [(0, 7)], [(0, 1)]), (2, [(1, .inl (9, 9)), (0, .inr (.inr 1))], [], [(0, 6)], [(0, 1)]), (2, [(1, .inl (10, 10)), (0, .inr (.inr 1))], [], [(0, 5)], [(0, 1)]), (2, [(1, .inl (11, 11)), (0, .inr (.inr 1))], [], [(0, 4)], [(0, 1)]), (2, [(1, .inl (12, 12)), (0, .inr (.inr 1))], [], [(0, 3)], [(0, 1)]), (2, [(1, .inl (13, 13)), (0, .inr (.inr 1))], [], [(0, 2)], [(0, 1)]), (2, [(1, .inl (14, 14)), (0, .inr (.inr 1))], [], [(0, 1)], [(0, 1)]), (2, [(1, .inl (15, 15)), (0, .inr (.inr 1))], [], [(0, 0)], [(0, 1)])]
def km76_s : List fx_D := []
def km76_x : fx_X := ([], [(92, 12, 41), (128, 12, 60)], [], [], [], [])
set_option maxRecDepth 100000 in
theorem km76_k : fx_chk TM 2 km76_c 9 km76_x t_X12_keepNow km76_a km76_s 16 = true := by decide +kernel
set_option maxRecDepth 100000 in
theorem km76 {l : Launch} {E : (Nat → Prop) → State → Prop} {ad : List Nat} {D : va_G} {cy : Nat → ClassId} (h : fx_env E D classes (tys cy) nestW) : fx_Met l yX12_keepNow (.code yX12_keepNow cX12_keepNow 2 none :: wsL_law) ({ frames := 0, cells := 0, slots := 0, locals := 0 }) E (gsM, TM, cy, fun _ => True) ad D classes km76_c :=
  fx_sound (x := km76_x) (tb := t_X12_keepNow) (an := km76_a) (sp := km76_s) (rk := 9) 16 h (fun _ _ _ _ _ _ => trivial) (fun _ _ _ _ _ _ => trivial) (ht_tys cy) (by decide) rfl ⟨fx_an, (fx_ac fl_X12_92 (fx_ac fl_X12_128 (fx_an))), fx_an, fx_an, fx_an, fx_an⟩ d_X12_keepNow km76_k
-- X12_isAsSlip 0 i
def km77_c : fx_C := ([.inr (.inr 1), .inl (0, 4)], [], [(some (.inl (0, 0)), [.inr (.inr 1), .inl (0, 4)], []), (some (.inl (1, 1)), [.inr (.inr 1), .inl (0, 4)], [((0, 41), .inr (.inr 27)), ((2, 12), .inl (0, 8))])], [])
def km77_a : List fx_N := [(19, [(0, .inr (.inr 1)), (1, .inl (0, 4)), (2, .inl (0, 8))], [((0, 41), .inr (.inr 27)), ((3, 12), .inl (0, 8))], [(0, 0), (1, 2), (0, 0)], [(0, 0), (1, 1)])]
def km77_s : List fx_D := []
def km77_x : fx_X := ([], [(92, 12, 41)], [], [], [], [(2, 381, 12, km8_c), (33, 387, 12, km10_c)])
set_option maxRecDepth 100000 in
theorem km77_k : fx_chk TM 3 km77_c 3 km77_x t_X12_isAsSlip km77_a km77_s 22 = true := by decide +kernel
set_option maxRecDepth 100000 in
theorem km77 {l : Launch} {E : (Nat → Prop) → State → Prop} {ad : List Nat} {D : va_G} {cy : Nat → ClassId} (h : fx_env E D classes (tys cy) nestW) : fx_Met l yX12_isAsSlip (.code yX12_isAsSlip cX12_isAsSlip 3 (some .boolean) :: wsL_law) ({ frames := 1, cells := 0, slots := 0, locals := 22 }) E (gsM, TM, cy, fun _ => True) ad D classes km77_c :=
  fx_sound (x := km77_x) (tb := t_X12_isAsSlip) (an := km77_a) (sp := km77_s) (rk := 3) 22 h (fun _ _ _ _ _ _ => trivial) (fun _ _ _ _ _ _ => trivial) (ht_tys cy) (by decide) rfl ⟨fx_an, (fx_ac fl_X12_92 (fx_an)), fx_an, fx_an, fx_an, (fx_ac (ev_V (km8 h) (by decide) rfl ⟨by decide, by decide⟩ iV_X12_longOf g_X12_381) (fx_ac (ev_V (km10 h) (by decide) rfl ⟨by decide, by decide⟩ iV_X12_wordOf g_X12_387) (fx_an)))⟩ d_X12_isAsSlip km77_k
-- X12_bringBack 0
def km78_c : fx_C := ([.inr (.inr 1)], [], [(none, [.inr (.inr 1)], [])], [(1000, 26)])
def km78_a : List fx_N := [(2, [(1, .inl (0, 0)), (0, .inr (.inr 1))], [], [(0, 15)], [(0, 1)]), (2, [(1, .inl (1, 1)), (0, .inr (.inr 1))], [], [(0, 14)], [(0, 1)]), (2, [(1, .inl (2, 2)), (0, .inr (.inr 1))], [], [(0, 13)], [(0, 1)]), (2, [(1, .inl (3, 3)), (0, .inr (.inr 1))], [], [(0, 12)], [(0, 1)]), (2, [(1, .inl (4, 4)), (0, .inr (.inr 1))], [], [(0, 11)], [(0, 1)]), (2, [(1, .inl (5, 5)), (0, .inr (.inr 1))], [], [(0, 10)], [(0, 1)]), (2, [(1, .inl (6, 6)), (0, .inr (.inr 1))], [], [(0, 9)], [(0, 1)]), (2, [(1, .inl (7, 7)), (0, .inr (.inr 1))], [], [(0, 8)], [(0, 1)]), (2, [(1, .inl (8, 8)), (0, .inr (.inr 1))], [], [(0, 7)], [(0, 1)]), (2, [(1, .inl (9, 9)), (0, .inr (.inr 1))], [], [(0, 6)], [(0, 1)]), (2, [(1, .inl (10, 10)), (0, .inr (.inr 1))], [], [(0, 5)], [(0, 1)]), (2, [(1, .inl (11, 11)), (0, .inr (.inr 1))], [], [(0, 4)], [(0, 1)]), (2, [(1, .inl (12, 12)), (0, .inr (.inr 1))], [], [(0, 3)], [(0, 1)]), (2, [(1, .inl (13, 13)), (0, .inr (.inr 1))], [], [(0, 2)], [(0, 1)]), (2, [(1, .inl (14, 14)), (0, .inr (.inr 1))], [], [(0, 1)], [(0, 1)]), (2, [(1, .inl (15, 15)), (0, .inr (.inr 1))], [], [(0, 0)], [(0, 1)])]
def km78_s : List fx_D := []
def km78_x : fx_X := ([], [(92, 12, 41), (128, 12, 60)], [], [], [], [])
set_option maxRecDepth 100000 in
theorem km78_k : fx_chk TM 2 km78_c 9 km78_x t_X12_bringBack km78_a km78_s 16 = true := by decide +kernel
set_option maxRecDepth 100000 in
theorem km78 {l : Launch} {E : (Nat → Prop) → State → Prop} {ad : List Nat} {D : va_G} {cy : Nat → ClassId} (h : fx_env E D classes (tys cy) nestW) : fx_Met l yX12_bringBack (.code yX12_bringBack cX12_bringBack 2 none :: wsL_law) ({ frames := 0, cells := 0, slots := 0, locals := 0 }) E (gsM, TM, cy, fun _ => True) ad D classes km78_c :=
  fx_sound (x := km78_x) (tb := t_X12_bringBack) (an := km78_a) (sp := km78_s) (rk := 9) 16 h (fun _ _ _ _ _ _ => trivial) (fun _ _ _ _ _ _ => trivial) (ht_tys cy) (by decide) rfl ⟨fx_an, (fx_ac fl_X12_92 (fx_ac fl_X12_128 (fx_an))), fx_an, fx_an, fx_an, fx_an⟩ d_X12_bringBack km78_k
-- X12_drop 0 i ('c', 1) +
def km79_c : fx_C := ([.inr (.inr 1), .inl (0, 0)], [((0, 41), .inr (.inr 27)), ((2, 12), .inl (1, 1))], [(none, [.inr (.inr 1), .inl (0, 0)], [((0, 41), .inr (.inr 27)), ((2, 0), .inl (0, 0)), ((2, 12), .inl (0, 0))])], [(1000, 26)])
def km79_a : List fx_N := [(2, [(0, .inr (.inr 1)), (1, .inl (0, 0)), (2, .inl (0, 0))], [((0, 41), .inr (.inr 27)), ((3, 12), .inl (1, 1))], [(0, 0)], [(0, 0), (1, 1)])]
def km79_s : List fx_D := []
def km79_x : fx_X := ([], [(92, 12, 41)], [], [], [], [])
set_option maxRecDepth 100000 in
theorem km79_k : fx_chk TM 3 km79_c 9 km79_x t_X12_drop km79_a km79_s 29 = true := by decide +kernel
set_option maxRecDepth 100000 in
theorem km79 {l : Launch} {E : (Nat → Prop) → State → Prop} {ad : List Nat} {D : va_G} {cy : Nat → ClassId} (h : fx_env E D classes (tys cy) nestW) : fx_Met l yX12_drop (.code yX12_drop cX12_drop 3 none :: wsL_law) ({ frames := 0, cells := 0, slots := 0, locals := 0 }) E (gsM, TM, cy, fun _ => True) ad D classes km79_c :=
  fx_sound (x := km79_x) (tb := t_X12_drop) (an := km79_a) (sp := km79_s) (rk := 9) 29 h (fun _ _ _ _ _ _ => trivial) (fun _ _ _ _ _ _ => trivial) (ht_tys cy) (by decide) rfl ⟨fx_an, (fx_ac fl_X12_92 (fx_an)), fx_an, fx_an, fx_an, fx_an⟩ d_X12_drop km79_k
-- X12_drop 0 i ('c', 2) +
def km80_c : fx_C := ([.inr (.inr 1), .inl (0, 1)], [((0, 41), .inr (.inr 27)), ((2, 12), .inl (2, 2))], [(none, [.inr (.inr 1), .inl (0, 1)], [((0, 41), .inr (.inr 27)), ((2, 1), .inl (0, 0)), ((2, 12), .inl (1, 1))])], [(1000, 26)])
def km80_a : List fx_N := [(2, [(0, .inr (.inr 1)), (1, .inl (0, 1)), (2, .inl (0, 1))], [((0, 41), .inr (.inr 27)), ((3, 12), .inl (2, 2))], [(0, 0), (1, 2), (0, 0)], [(0, 0), (1, 1)])]
def km80_s : List fx_D := []
def km80_x : fx_X := ([], [(92, 12, 41)], [], [], [], [])
set_option maxRecDepth 100000 in
theorem km80_k : fx_chk TM 3 km80_c 9 km80_x t_X12_drop km80_a km80_s 29 = true := by decide +kernel
set_option maxRecDepth 100000 in
theorem km80 {l : Launch} {E : (Nat → Prop) → State → Prop} {ad : List Nat} {D : va_G} {cy : Nat → ClassId} (h : fx_env E D classes (tys cy) nestW) : fx_Met l yX12_drop (.code yX12_drop cX12_drop 3 none :: wsL_law) ({ frames := 0, cells := 0, slots := 0, locals := 0 }) E (gsM, TM, cy, fun _ => True) ad D classes km80_c :=
  fx_sound (x := km80_x) (tb := t_X12_drop) (an := km80_a) (sp := km80_s) (rk := 9) 29 h (fun _ _ _ _ _ _ => trivial) (fun _ _ _ _ _ _ => trivial) (ht_tys cy) (by decide) rfl ⟨fx_an, (fx_ac fl_X12_92 (fx_an)), fx_an, fx_an, fx_an, fx_an⟩ d_X12_drop km80_k
-- X12_drop 0 i ('c', 3) +
def km81_c : fx_C := ([.inr (.inr 1), .inl (0, 2)], [((0, 41), .inr (.inr 27)), ((2, 12), .inl (3, 3))], [(none, [.inr (.inr 1), .inl (0, 2)], [((0, 41), .inr (.inr 27)), ((2, 2), .inl (0, 0)), ((2, 12), .inl (2, 2))])], [(1000, 26)])
def km81_a : List fx_N := [(2, [(0, .inr (.inr 1)), (1, .inl (0, 2)), (2, .inl (0, 2))], [((0, 41), .inr (.inr 27)), ((3, 12), .inl (3, 3))], [(0, 0), (1, 2), (0, 0)], [(0, 0), (1, 1)])]
def km81_s : List fx_D := []
def km81_x : fx_X := ([], [(92, 12, 41)], [], [], [], [])
set_option maxRecDepth 100000 in
theorem km81_k : fx_chk TM 3 km81_c 9 km81_x t_X12_drop km81_a km81_s 29 = true := by decide +kernel
set_option maxRecDepth 100000 in
theorem km81 {l : Launch} {E : (Nat → Prop) → State → Prop} {ad : List Nat} {D : va_G} {cy : Nat → ClassId} (h : fx_env E D classes (tys cy) nestW) : fx_Met l yX12_drop (.code yX12_drop cX12_drop 3 none :: wsL_law) ({ frames := 0, cells := 0, slots := 0, locals := 0 }) E (gsM, TM, cy, fun _ => True) ad D classes km81_c :=
  fx_sound (x := km81_x) (tb := t_X12_drop) (an := km81_a) (sp := km81_s) (rk := 9) 29 h (fun _ _ _ _ _ _ => trivial) (fun _ _ _ _ _ _ => trivial) (ht_tys cy) (by decide) rfl ⟨fx_an, (fx_ac fl_X12_92 (fx_an)), fx_an, fx_an, fx_an, fx_an⟩ d_X12_drop km81_k
-- X12_drop 0 i ('c', 4) +
def km82_c : fx_C := ([.inr (.inr 1), .inl (0, 3)], [((0, 41), .inr (.inr 27)), ((2, 12), .inl (4, 4))], [(none, [.inr (.inr 1), .inl (0, 3)], [((0, 41), .inr (.inr 27)), ((2, 3), .inl (0, 0)), ((2, 12), .inl (3, 3))])], [(1000, 26)])
def km82_a : List fx_N := [(2, [(0, .inr (.inr 1)), (1, .inl (0, 3)), (2, .inl (0, 3))], [((0, 41), .inr (.inr 27)), ((3, 12), .inl (4, 4))], [(0, 0), (1, 2), (0, 0)], [(0, 0), (1, 1)])]
def km82_s : List fx_D := []
def km82_x : fx_X := ([], [(92, 12, 41)], [], [], [], [])
set_option maxRecDepth 100000 in
theorem km82_k : fx_chk TM 3 km82_c 9 km82_x t_X12_drop km82_a km82_s 29 = true := by decide +kernel
set_option maxRecDepth 100000 in
theorem km82 {l : Launch} {E : (Nat → Prop) → State → Prop} {ad : List Nat} {D : va_G} {cy : Nat → ClassId} (h : fx_env E D classes (tys cy) nestW) : fx_Met l yX12_drop (.code yX12_drop cX12_drop 3 none :: wsL_law) ({ frames := 0, cells := 0, slots := 0, locals := 0 }) E (gsM, TM, cy, fun _ => True) ad D classes km82_c :=
  fx_sound (x := km82_x) (tb := t_X12_drop) (an := km82_a) (sp := km82_s) (rk := 9) 29 h (fun _ _ _ _ _ _ => trivial) (fun _ _ _ _ _ _ => trivial) (ht_tys cy) (by decide) rfl ⟨fx_an, (fx_ac fl_X12_92 (fx_an)), fx_an, fx_an, fx_an, fx_an⟩ d_X12_drop km82_k
-- X12_drop 0 i ('c', 5) +
def km83_c : fx_C := ([.inr (.inr 1), .inl (0, 4)], [((0, 41), .inr (.inr 27)), ((2, 12), .inl (5, 5))], [(none, [.inr (.inr 1), .inl (0, 4)], [((0, 41), .inr (.inr 27)), ((2, 4), .inl (0, 0)), ((2, 12), .inl (4, 4))])], [(1000, 26)])
def km83_a : List fx_N := [(2, [(0, .inr (.inr 1)), (1, .inl (0, 4)), (2, .inl (0, 4))], [((0, 41), .inr (.inr 27)), ((3, 12), .inl (5, 5))], [(0, 0), (1, 2), (0, 0)], [(0, 0), (1, 1)])]
def km83_s : List fx_D := []
def km83_x : fx_X := ([], [(92, 12, 41)], [], [], [], [])
set_option maxRecDepth 100000 in
theorem km83_k : fx_chk TM 3 km83_c 9 km83_x t_X12_drop km83_a km83_s 29 = true := by decide +kernel
set_option maxRecDepth 100000 in
theorem km83 {l : Launch} {E : (Nat → Prop) → State → Prop} {ad : List Nat} {D : va_G} {cy : Nat → ClassId} (h : fx_env E D classes (tys cy) nestW) : fx_Met l yX12_drop (.code yX12_drop cX12_drop 3 none :: wsL_law) ({ frames := 0, cells := 0, slots := 0, locals := 0 }) E (gsM, TM, cy, fun _ => True) ad D classes km83_c :=
  fx_sound (x := km83_x) (tb := t_X12_drop) (an := km83_a) (sp := km83_s) (rk := 9) 29 h (fun _ _ _ _ _ _ => trivial) (fun _ _ _ _ _ _ => trivial) (ht_tys cy) (by decide) rfl ⟨fx_an, (fx_ac fl_X12_92 (fx_an)), fx_an, fx_an, fx_an, fx_an⟩ d_X12_drop km83_k
-- X12_drop 0 i ('c', 6) +
def km84_c : fx_C := ([.inr (.inr 1), .inl (0, 5)], [((0, 41), .inr (.inr 27)), ((2, 12), .inl (6, 6))], [(none, [.inr (.inr 1), .inl (0, 5)], [((0, 41), .inr (.inr 27)), ((2, 5), .inl (0, 0)), ((2, 12), .inl (5, 5))])], [(1000, 26)])
def km84_a : List fx_N := [(2, [(0, .inr (.inr 1)), (1, .inl (0, 5)), (2, .inl (0, 5))], [((0, 41), .inr (.inr 27)), ((3, 12), .inl (6, 6))], [(0, 0), (1, 2), (0, 0)], [(0, 0), (1, 1)])]
def km84_s : List fx_D := []
def km84_x : fx_X := ([], [(92, 12, 41)], [], [], [], [])
set_option maxRecDepth 100000 in
theorem km84_k : fx_chk TM 3 km84_c 9 km84_x t_X12_drop km84_a km84_s 29 = true := by decide +kernel
set_option maxRecDepth 100000 in
theorem km84 {l : Launch} {E : (Nat → Prop) → State → Prop} {ad : List Nat} {D : va_G} {cy : Nat → ClassId} (h : fx_env E D classes (tys cy) nestW) : fx_Met l yX12_drop (.code yX12_drop cX12_drop 3 none :: wsL_law) ({ frames := 0, cells := 0, slots := 0, locals := 0 }) E (gsM, TM, cy, fun _ => True) ad D classes km84_c :=
  fx_sound (x := km84_x) (tb := t_X12_drop) (an := km84_a) (sp := km84_s) (rk := 9) 29 h (fun _ _ _ _ _ _ => trivial) (fun _ _ _ _ _ _ => trivial) (ht_tys cy) (by decide) rfl ⟨fx_an, (fx_ac fl_X12_92 (fx_an)), fx_an, fx_an, fx_an, fx_an⟩ d_X12_drop km84_k
-- X12_drop 0 i ('c', 7) +
def km85_c : fx_C := ([.inr (.inr 1), .inl (0, 6)], [((0, 41), .inr (.inr 27)), ((2, 12), .inl (7, 7))], [(none, [.inr (.inr 1), .inl (0, 6)], [((0, 41), .inr (.inr 27)), ((2, 6), .inl (0, 0)), ((2, 12), .inl (6, 6))])], [(1000, 26)])
def km85_a : List fx_N := [(2, [(0, .inr (.inr 1)), (1, .inl (0, 6)), (2, .inl (0, 6))], [((0, 41), .inr (.inr 27)), ((3, 12), .inl (7, 7))], [(0, 0), (1, 2), (0, 0)], [(0, 0), (1, 1)])]
def km85_s : List fx_D := []
def km85_x : fx_X := ([], [(92, 12, 41)], [], [], [], [])
set_option maxRecDepth 100000 in
theorem km85_k : fx_chk TM 3 km85_c 9 km85_x t_X12_drop km85_a km85_s 29 = true := by decide +kernel
set_option maxRecDepth 100000 in
theorem km85 {l : Launch} {E : (Nat → Prop) → State → Prop} {ad : List Nat} {D : va_G} {cy : Nat → ClassId} (h : fx_env E D classes (tys cy) nestW) : fx_Met l yX12_drop (.code yX12_drop cX12_drop 3 none :: wsL_law) ({ frames := 0, cells := 0, slots := 0, locals := 0 }) E (gsM, TM, cy, fun _ => True) ad D classes km85_c :=
  fx_sound (x := km85_x) (tb := t_X12_drop) (an := km85_a) (sp := km85_s) (rk := 9) 29 h (fun _ _ _ _ _ _ => trivial) (fun _ _ _ _ _ _ => trivial) (ht_tys cy) (by decide) rfl ⟨fx_an, (fx_ac fl_X12_92 (fx_an)), fx_an, fx_an, fx_an, fx_an⟩ d_X12_drop km85_k
-- X12_drop 0 i ('c', 8) +
def km86_c : fx_C := ([.inr (.inr 1), .inl (0, 7)], [((0, 41), .inr (.inr 27)), ((2, 12), .inl (8, 8))], [(none, [.inr (.inr 1), .inl (0, 7)], [((0, 41), .inr (.inr 27)), ((2, 7), .inl (0, 0)), ((2, 12), .inl (7, 7))])], [(1000, 26)])
def km86_a : List fx_N := [(2, [(0, .inr (.inr 1)), (1, .inl (0, 7)), (2, .inl (0, 7))], [((0, 41), .inr (.inr 27)), ((3, 12), .inl (8, 8))], [(0, 0), (1, 2), (0, 0)], [(0, 0), (1, 1)])]
def km86_s : List fx_D := []
def km86_x : fx_X := ([], [(92, 12, 41)], [], [], [], [])
set_option maxRecDepth 100000 in
theorem km86_k : fx_chk TM 3 km86_c 9 km86_x t_X12_drop km86_a km86_s 29 = true := by decide +kernel
set_option maxRecDepth 100000 in
theorem km86 {l : Launch} {E : (Nat → Prop) → State → Prop} {ad : List Nat} {D : va_G} {cy : Nat → ClassId} (h : fx_env E D classes (tys cy) nestW) : fx_Met l yX12_drop (.code yX12_drop cX12_drop 3 none :: wsL_law) ({ frames := 0, cells := 0, slots := 0, locals := 0 }) E (gsM, TM, cy, fun _ => True) ad D classes km86_c :=
  fx_sound (x := km86_x) (tb := t_X12_drop) (an := km86_a) (sp := km86_s) (rk := 9) 29 h (fun _ _ _ _ _ _ => trivial) (fun _ _ _ _ _ _ => trivial) (ht_tys cy) (by decide) rfl ⟨fx_an, (fx_ac fl_X12_92 (fx_an)), fx_an, fx_an, fx_an, fx_an⟩ d_X12_drop km86_k
-- X12_drop 0 i ('c', 9) +
def km87_c : fx_C := ([.inr (.inr 1), .inl (0, 8)], [((0, 41), .inr (.inr 27)), ((2, 12), .inl (9, 9))], [(none, [.inr (.inr 1), .inl (0, 8)], [((0, 41), .inr (.inr 27)), ((2, 8), .inl (0, 0)), ((2, 12), .inl (8, 8))])], [(1000, 26)])
def km87_a : List fx_N := [(2, [(0, .inr (.inr 1)), (1, .inl (0, 8)), (2, .inl (0, 8))], [((0, 41), .inr (.inr 27)), ((3, 12), .inl (9, 9))], [(0, 0), (1, 2), (0, 0)], [(0, 0), (1, 1)])]
def km87_s : List fx_D := []
def km87_x : fx_X := ([], [(92, 12, 41)], [], [], [], [])
set_option maxRecDepth 100000 in
theorem km87_k : fx_chk TM 3 km87_c 9 km87_x t_X12_drop km87_a km87_s 29 = true := by decide +kernel
set_option maxRecDepth 100000 in
theorem km87 {l : Launch} {E : (Nat → Prop) → State → Prop} {ad : List Nat} {D : va_G} {cy : Nat → ClassId} (h : fx_env E D classes (tys cy) nestW) : fx_Met l yX12_drop (.code yX12_drop cX12_drop 3 none :: wsL_law) ({ frames := 0, cells := 0, slots := 0, locals := 0 }) E (gsM, TM, cy, fun _ => True) ad D classes km87_c :=
  fx_sound (x := km87_x) (tb := t_X12_drop) (an := km87_a) (sp := km87_s) (rk := 9) 29 h (fun _ _ _ _ _ _ => trivial) (fun _ _ _ _ _ _ => trivial) (ht_tys cy) (by decide) rfl ⟨fx_an, (fx_ac fl_X12_92 (fx_an)), fx_an, fx_an, fx_an, fx_an⟩ d_X12_drop km87_k
-- X12_drop 0 i ('c', 10) +
def km88_c : fx_C := ([.inr (.inr 1), .inl (0, 9)], [((0, 41), .inr (.inr 27)), ((2, 12), .inl (10, 10))], [(none, [.inr (.inr 1), .inl (0, 9)], [((0, 41), .inr (.inr 27)), ((2, 9), .inl (0, 0)), ((2, 12), .inl (9, 9))])], [(1000, 26)])
def km88_a : List fx_N := [(2, [(0, .inr (.inr 1)), (1, .inl (0, 9)), (2, .inl (0, 9))], [((0, 41), .inr (.inr 27)), ((3, 12), .inl (10, 10))], [(0, 0), (1, 2), (0, 0)], [(0, 0), (1, 1)])]
def km88_s : List fx_D := []
def km88_x : fx_X := ([], [(92, 12, 41)], [], [], [], [])
set_option maxRecDepth 100000 in
theorem km88_k : fx_chk TM 3 km88_c 9 km88_x t_X12_drop km88_a km88_s 29 = true := by decide +kernel
set_option maxRecDepth 100000 in
theorem km88 {l : Launch} {E : (Nat → Prop) → State → Prop} {ad : List Nat} {D : va_G} {cy : Nat → ClassId} (h : fx_env E D classes (tys cy) nestW) : fx_Met l yX12_drop (.code yX12_drop cX12_drop 3 none :: wsL_law) ({ frames := 0, cells := 0, slots := 0, locals := 0 }) E (gsM, TM, cy, fun _ => True) ad D classes km88_c :=
  fx_sound (x := km88_x) (tb := t_X12_drop) (an := km88_a) (sp := km88_s) (rk := 9) 29 h (fun _ _ _ _ _ _ => trivial) (fun _ _ _ _ _ _ => trivial) (ht_tys cy) (by decide) rfl ⟨fx_an, (fx_ac fl_X12_92 (fx_an)), fx_an, fx_an, fx_an, fx_an⟩ d_X12_drop km88_k
-- X12_drop 0 i ('c', 11) +
def km89_c : fx_C := ([.inr (.inr 1), .inl (0, 10)], [((0, 41), .inr (.inr 27)), ((2, 12), .inl (11, 11))], [(none, [.inr (.inr 1), .inl (0, 10)], [((0, 41), .inr (.inr 27)), ((2, 10), .inl (0, 0)), ((2, 12), .inl (10, 10))])], [(1000, 26)])
def km89_a : List fx_N := [(2, [(0, .inr (.inr 1)), (1, .inl (0, 10)), (2, .inl (0, 10))], [((0, 41), .inr (.inr 27)), ((3, 12), .inl (11, 11))], [(0, 0), (1, 2), (0, 0)], [(0, 0), (1, 1)])]
def km89_s : List fx_D := []
def km89_x : fx_X := ([], [(92, 12, 41)], [], [], [], [])
set_option maxRecDepth 100000 in
theorem km89_k : fx_chk TM 3 km89_c 9 km89_x t_X12_drop km89_a km89_s 29 = true := by decide +kernel
set_option maxRecDepth 100000 in
theorem km89 {l : Launch} {E : (Nat → Prop) → State → Prop} {ad : List Nat} {D : va_G} {cy : Nat → ClassId} (h : fx_env E D classes (tys cy) nestW) : fx_Met l yX12_drop (.code yX12_drop cX12_drop 3 none :: wsL_law) ({ frames := 0, cells := 0, slots := 0, locals := 0 }) E (gsM, TM, cy, fun _ => True) ad D classes km89_c :=
  fx_sound (x := km89_x) (tb := t_X12_drop) (an := km89_a) (sp := km89_s) (rk := 9) 29 h (fun _ _ _ _ _ _ => trivial) (fun _ _ _ _ _ _ => trivial) (ht_tys cy) (by decide) rfl ⟨fx_an, (fx_ac fl_X12_92 (fx_an)), fx_an, fx_an, fx_an, fx_an⟩ d_X12_drop km89_k
