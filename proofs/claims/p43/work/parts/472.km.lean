-- X12_duelOf 0 i
def km341_c : fx_C := ([.inr (.inr 1), .inl (1, 4)], [], [(some (.inl (-2147483648, 2147483647)), [.inr (.inr 1), .inl (1, 4)], [])], [(12, 45), (12, 59), (1000, 27), (1000, 37)])
def km341_a : List fx_N := [(12, [(0, .inr (.inr 1)), (1, .inl (1, 4)), (2, .inl (-1, 4095))], [], [(0, 0), (2, 2), (0, 1), (0, 0), (0, 0)], [(0, 0), (1, 1)]), (66, [(0, .inr (.inr 1)), (1, .inl (1, 4)), (2, .inl (0, 4095)), (3, .inl (-2147483648, 4)), (4, .inl (-1, 11)), (5, .inl (0, 12))], [], [(0, 0), (2, 2), (0, 0), (1, 5), (0, 0)], [(0, 0), (1, 1)])]
def km341_s : List fx_D := []
def km341_x : fx_X := ([], [(92, 12, 41), (95, 12, 42), (125, 12, 58), (384, 12, 45)], [(489, 12, 59, 0)], [], [], [(17, 480, 1000, km322_c), (36, 483, 12, km64_c), (53, 406, 12, km22_c), (81, 474, 1000, km72_c)])
set_option maxRecDepth 100000 in
theorem km341_k : fx_chk TM 7 km341_c 0 km341_x t_X12_duelOf km341_a km341_s 43 = true := by decide +kernel
set_option maxRecDepth 100000 in
theorem km341 {l : Launch} {E : (Nat → Prop) → State → Prop} {ad : List Nat} {D : va_G} {cy : Nat → ClassId} (h : fx_env E D classes (tys cy) nestW) : fx_Met l yX12_duelOf (.code yX12_duelOf cX12_duelOf 7 (some .int) :: wsL_law) ({ frames := 2, cells := 0, slots := 0, locals := 46 }) E (gsM, TM, cy, fun _ => True) ad D classes km341_c :=
  fx_sound (x := km341_x) (tb := t_X12_duelOf) (an := km341_a) (sp := km341_s) (rk := 0) 43 h (fun _ _ _ _ _ _ => trivial) (fun _ _ _ _ _ _ => trivial) (ht_tys cy) (by decide) rfl ⟨fx_an, (fx_ac fl_X12_92 (fx_ac fl_X12_95 (fx_ac fl_X12_125 (fx_ac fl_X12_384 (fx_an))))), (fx_ac pl_X12_489 (fx_an)), fx_an, fx_an, (fx_ac (ev_S (km322 h) ⟨by decide, by decide⟩ iS_X12_bitsOf g_X12_480) (fx_ac (ev_V (km64 h) (by decide) rfl ⟨by decide, by decide⟩ iV_X12_layWithout g_X12_483) (fx_ac (ev_V (km22 h) (by decide) rfl ⟨by decide, by decide⟩ iV_X12_senseOf g_X12_406) (fx_ac (ev_S (km72 h) ⟨by decide, by decide⟩ iS_X12_has g_X12_474) (fx_an)))))⟩ d_X12_duelOf km341_k
-- X12_duel 0 i i
def km342_c : fx_C := ([.inr (.inr 1), .inl (-2147483648, 2147483647), .inl (-2147483648, 2147483647)], [], [(some (.inl (-1000000, -1000000)), [.inr (.inr 1), .inl (-2147483648, 2147483647), .inl (-2147483648, 2147483647)], []), (some (.inl (-2147483648, 2147483647)), [.inr (.inr 1), .inl (1, 4), .inl (0, 1)], [((0, 41), .inr (.inr 27)), ((3, 12), .inl (1, 12))])], [(12, 45), (12, 59), (1000, 27), (1000, 37)])
def km342_a : List fx_N := []
def km342_s : List fx_D := []
def km342_x : fx_X := ([], [(92, 12, 41), (489, 12, 59)], [], [(402, -1000000)], [], [(3, 359, 1000, km71_c), (23, 359, 1000, km25_c), (35, 492, 12, km341_c)])
set_option maxRecDepth 100000 in
theorem km342_k : fx_chk TM 4 km342_c 0 km342_x t_X12_duel km342_a km342_s 27 = true := by decide +kernel
set_option maxRecDepth 100000 in
theorem km342 {l : Launch} {E : (Nat → Prop) → State → Prop} {ad : List Nat} {D : va_G} {cy : Nat → ClassId} (h : fx_env E D classes (tys cy) nestW) : fx_Met l yX12_duel (.code yX12_duel cX12_duel 4 (some .int) :: wsL_law) ({ frames := 3, cells := 0, slots := 0, locals := 72 }) E (gsM, TM, cy, fun _ => True) ad D classes km342_c :=
  fx_sound (x := km342_x) (tb := t_X12_duel) (an := km342_a) (sp := km342_s) (rk := 0) 27 h (fun _ _ _ _ _ _ => trivial) (fun _ _ _ _ _ _ => trivial) (ht_tys cy) (by decide) rfl ⟨fx_an, (fx_ac fl_X12_92 (fx_ac fl_X12_489 (fx_an))), fx_an, (fx_ac kc_X12_402 (fx_an)), fx_an, (fx_ac (ev_S (km71 h) ⟨by decide, by decide⟩ iS_X12_isIn g_X12_359) (fx_ac (ev_S (km25 h) ⟨by decide, by decide⟩ iS_X12_isIn g_X12_359) (fx_ac (ev_V (km341 h) (by decide) rfl ⟨by decide, by decide⟩ iV_X12_duelOf g_X12_492) (fx_an))))⟩ d_X12_duel km342_k
-- X12_missedBy 0 i ('c', 1) +
def km343_c : fx_C := ([.inr (.inr 1), .inl (0, 1)], [((0, 41), .inr (.inr 27)), ((2, 12), .inl (1, 1))], [(some (.inl (0, 0)), [.inr (.inr 1), .inl (0, 1)], [])], [(12, 40), (1000, 25)])
def km343_a : List fx_N := [(7, [(2, .inl (-1, -1)), (0, .inr (.inr 1)), (1, .inl (0, 1)), (3, .inl (0, 0)), (4, .inl (0, 0))], [((1, 41), .inr (.inr 27)), ((5, 12), .inl (1, 1))], [(0, 1)], [(0, 1), (1, 2)]), (7, [(2, .inl (0, 0)), (0, .inr (.inr 1)), (1, .inl (0, 1)), (3, .inl (-2147483648, 2147483647)), (4, .inl (1, 1))], [((1, 41), .inr (.inr 27)), ((5, 12), .inl (1, 1))], [(0, 0)], [(0, 1), (1, 2)])]
def km343_s : List fx_D := []
def km343_x : fx_X := ([], [(92, 12, 41)], [], [], [], [(22, 410, 12, km329_c)])
set_option maxRecDepth 100000 in
theorem km343_k : fx_chk TM 6 km343_c 0 km343_x t_X12_missedBy km343_a km343_s 21 = true := by decide +kernel
set_option maxRecDepth 100000 in
theorem km343 {l : Launch} {E : (Nat → Prop) → State → Prop} {ad : List Nat} {D : va_G} {cy : Nat → ClassId} (h : fx_env E D classes (tys cy) nestW) : fx_Met l yX12_missedBy (.code yX12_missedBy cX12_missedBy 6 (some .int) :: wsL_law) ({ frames := 4, cells := 0, slots := 0, locals := 90 }) E (gsM, TM, cy, IM) ad D classes km343_c :=
  fx_sound (x := km343_x) (tb := t_X12_missedBy) (an := km343_a) (sp := km343_s) (rk := 0) 21 h (im_frA (by decide +kernel)) (im_frF (by decide +kernel)) (ht_tys cy) (by decide) rfl ⟨fx_an, (fx_ac fl_X12_92 (fx_an)), fx_an, fx_an, fx_an, (fx_ac (ev_V (km329 h) (by decide) rfl ⟨by decide, by decide⟩ iV_X12_missOf g_X12_410) (fx_an))⟩ d_X12_missedBy km343_k
theorem km79_i {l : Launch} {E : (Nat → Prop) → State → Prop} {ad : List Nat} {D : va_G} {cy : Nat → ClassId} (h : fx_env E D classes (tys cy) nestW) : fx_Met l yX12_drop (.code yX12_drop cX12_drop 3 none :: wsL_law) ({ frames := 0, cells := 0, slots := 0, locals := 0 }) E (gsM, TM, cy, IM) ad D classes km79_c := fx_lift (km79 h) (im_lift (by decide +kernel))
-- X12_goRound 0 i ('c', 1) +
def km344_c : fx_C := ([.inr (.inr 1), .inl (0, 2)], [((0, 41), .inr (.inr 27)), ((2, 12), .inl (1, 1))], [(some (.inl (0, 8)), [.inr (.inr 1), .inl (0, 2)], [((0, 41), .inr (.inr 27)), ((2, 0), .inl (0, 0)), ((2, 12), .inl (0, 0))])], [(12, 40), (1000, 25), (1000, 26)])
def km344_a : List fx_N := []
def km344_s : List fx_D := []
def km344_x : fx_X := ([], [(92, 12, 41)], [], [], [], [(8, 413, 12, km343_c), (72, 416, 12, km79_c)])
set_option maxRecDepth 100000 in
theorem km344_k : fx_chk TM 4 km344_c 0 km344_x t_X12_goRound km344_a km344_s 52 = true := by decide +kernel
set_option maxRecDepth 100000 in
theorem km344 {l : Launch} {E : (Nat → Prop) → State → Prop} {ad : List Nat} {D : va_G} {cy : Nat → ClassId} (h : fx_env E D classes (tys cy) nestW) : fx_Met l yX12_goRound (.code yX12_goRound cX12_goRound 4 (some .int) :: wsL_law) ({ frames := 5, cells := 0, slots := 0, locals := 115 }) E (gsM, TM, cy, IM) ad D classes km344_c :=
  fx_sound (x := km344_x) (tb := t_X12_goRound) (an := km344_a) (sp := km344_s) (rk := 0) 52 h (im_frA (by decide +kernel)) (im_frF (by decide +kernel)) (ht_tys cy) (by decide) rfl ⟨fx_an, (fx_ac fl_X12_92 (fx_an)), fx_an, fx_an, fx_an, (fx_ac (ev_V (km343 h) (by decide) rfl ⟨by decide, by decide⟩ iV_X12_missedBy g_X12_413) (fx_ac (ev_V (km79_i h) (by decide) rfl ⟨by decide, by decide⟩ iV_X12_drop g_X12_416) (fx_an)))⟩ d_X12_goRound km344_k
-- X12_missedBy 0 i ('c', 2) +
def km345_c : fx_C := ([.inr (.inr 1), .inl (0, 1)], [((0, 41), .inr (.inr 27)), ((2, 12), .inl (2, 2))], [(some (.inl (0, 0)), [.inr (.inr 1), .inl (0, 1)], []), (some (.inl (1, 1)), [.inr (.inr 1), .inl (0, 1)], [])], [(12, 40), (1000, 25)])
def km345_a : List fx_N := [(7, [(2, .inl (-1, -1)), (0, .inr (.inr 1)), (1, .inl (0, 1)), (3, .inl (0, 0)), (4, .inl (0, 0))], [((1, 41), .inr (.inr 27)), ((5, 12), .inl (2, 2))], [(0, 2), (0, 0), (0, 0)], [(0, 1), (1, 2)]), (7, [(2, .inl (0, 0)), (0, .inr (.inr 1)), (1, .inl (0, 1)), (3, .inl (-2147483648, 2147483647)), (4, .inl (1, 2))], [((1, 41), .inr (.inr 27)), ((5, 12), .inl (2, 2))], [(0, 1), (1, 4), (0, 0)], [(0, 1), (1, 2)]), (7, [(2, .inl (1, 1)), (0, .inr (.inr 1)), (1, .inl (0, 1)), (3, .inl (-2147483648, 2147483647)), (4, .inl (2, 2))], [((1, 41), .inr (.inr 27)), ((5, 12), .inl (2, 2))], [(0, 0), (0, 0), (0, 0)], [(0, 1), (1, 2)])]
def km345_s : List fx_D := []
def km345_x : fx_X := ([], [(92, 12, 41)], [], [], [], [(22, 410, 12, km329_c)])
set_option maxRecDepth 100000 in
theorem km345_k : fx_chk TM 6 km345_c 0 km345_x t_X12_missedBy km345_a km345_s 26 = true := by decide +kernel
set_option maxRecDepth 100000 in
theorem km345 {l : Launch} {E : (Nat → Prop) → State → Prop} {ad : List Nat} {D : va_G} {cy : Nat → ClassId} (h : fx_env E D classes (tys cy) nestW) : fx_Met l yX12_missedBy (.code yX12_missedBy cX12_missedBy 6 (some .int) :: wsL_law) ({ frames := 4, cells := 0, slots := 0, locals := 90 }) E (gsM, TM, cy, IM) ad D classes km345_c :=
  fx_sound (x := km345_x) (tb := t_X12_missedBy) (an := km345_a) (sp := km345_s) (rk := 0) 26 h (im_frA (by decide +kernel)) (im_frF (by decide +kernel)) (ht_tys cy) (by decide) rfl ⟨fx_an, (fx_ac fl_X12_92 (fx_an)), fx_an, fx_an, fx_an, (fx_ac (ev_V (km329 h) (by decide) rfl ⟨by decide, by decide⟩ iV_X12_missOf g_X12_410) (fx_an))⟩ d_X12_missedBy km345_k
theorem km80_i {l : Launch} {E : (Nat → Prop) → State → Prop} {ad : List Nat} {D : va_G} {cy : Nat → ClassId} (h : fx_env E D classes (tys cy) nestW) : fx_Met l yX12_drop (.code yX12_drop cX12_drop 3 none :: wsL_law) ({ frames := 0, cells := 0, slots := 0, locals := 0 }) E (gsM, TM, cy, IM) ad D classes km80_c := fx_lift (km80 h) (im_lift (by decide +kernel))
-- X12_goRound 0 i ('c', 2) +
def km346_c : fx_C := ([.inr (.inr 1), .inl (0, 2)], [((0, 41), .inr (.inr 27)), ((2, 12), .inl (2, 2))], [(some (.inl (0, 8)), [.inr (.inr 1), .inl (0, 2)], [((0, 41), .inr (.inr 27)), ((2, 1), .inl (0, 0)), ((2, 12), .inl (1, 1))])], [(12, 40), (1000, 25), (1000, 26)])
def km346_a : List fx_N := []
def km346_s : List fx_D := []
def km346_x : fx_X := ([], [(92, 12, 41)], [], [], [], [(8, 413, 12, km345_c), (72, 416, 12, km80_c)])
set_option maxRecDepth 100000 in
theorem km346_k : fx_chk TM 4 km346_c 0 km346_x t_X12_goRound km346_a km346_s 52 = true := by decide +kernel
set_option maxRecDepth 100000 in
theorem km346 {l : Launch} {E : (Nat → Prop) → State → Prop} {ad : List Nat} {D : va_G} {cy : Nat → ClassId} (h : fx_env E D classes (tys cy) nestW) : fx_Met l yX12_goRound (.code yX12_goRound cX12_goRound 4 (some .int) :: wsL_law) ({ frames := 5, cells := 0, slots := 0, locals := 115 }) E (gsM, TM, cy, IM) ad D classes km346_c :=
  fx_sound (x := km346_x) (tb := t_X12_goRound) (an := km346_a) (sp := km346_s) (rk := 0) 52 h (im_frA (by decide +kernel)) (im_frF (by decide +kernel)) (ht_tys cy) (by decide) rfl ⟨fx_an, (fx_ac fl_X12_92 (fx_an)), fx_an, fx_an, fx_an, (fx_ac (ev_V (km345 h) (by decide) rfl ⟨by decide, by decide⟩ iV_X12_missedBy g_X12_413) (fx_ac (ev_V (km80_i h) (by decide) rfl ⟨by decide, by decide⟩ iV_X12_drop g_X12_416) (fx_an)))⟩ d_X12_goRound km346_k
-- X12_missedBy 0 i ('c', 3) +
def km347_c : fx_C := ([.inr (.inr 1), .inl (0, 1)], [((0, 41), .inr (.inr 27)), ((2, 12), .inl (3, 3))], [(some (.inl (0, 0)), [.inr (.inr 1), .inl (0, 1)], []), (some (.inl (1, 1)), [.inr (.inr 1), .inl (0, 1)], []), (some (.inl (1, 2)), [.inr (.inr 1), .inl (0, 1)], []), (some (.inl (2, 2)), [.inr (.inr 1), .inl (0, 1)], [])], [(12, 40), (1000, 25)])
def km347_a : List fx_N := [(7, [(2, .inl (-1, -1)), (0, .inr (.inr 1)), (1, .inl (0, 1)), (3, .inl (0, 0)), (4, .inl (0, 0))], [((1, 41), .inr (.inr 27)), ((5, 12), .inl (3, 3))], [(0, 3), (0, 0), (0, 0)], [(0, 1), (1, 2)]), (7, [(2, .inl (0, 0)), (0, .inr (.inr 1)), (1, .inl (0, 1)), (3, .inl (-2147483648, 2147483647)), (4, .inl (1, 3))], [((1, 41), .inr (.inr 27)), ((5, 12), .inl (3, 3))], [(0, 2), (1, 4), (0, 0)], [(0, 1), (1, 2)]), (7, [(2, .inl (1, 1)), (0, .inr (.inr 1)), (1, .inl (0, 1)), (3, .inl (-2147483648, 2147483647)), (4, .inl (2, 3))], [((1, 41), .inr (.inr 27)), ((5, 12), .inl (3, 3))], [(0, 4), (1, 4), (0, 0)], [(0, 1), (1, 2)]), (7, [(2, .inl (1, 2)), (0, .inr (.inr 1)), (1, .inl (0, 1)), (3, .inl (-2147483648, 2147483647)), (4, .inl (2, 3))], [((1, 41), .inr (.inr 27)), ((5, 12), .inl (3, 3))], [(0, 1), (1, 4), (0, 0)], [(0, 1), (1, 2)]), (7, [(2, .inl (2, 2)), (0, .inr (.inr 1)), (1, .inl (0, 1)), (3, .inl (-2147483648, 2147483647)), (4, .inl (3, 3))], [((1, 41), .inr (.inr 27)), ((5, 12), .inl (3, 3))], [(0, 0), (0, 0), (0, 0)], [(0, 1), (1, 2)])]
def km347_s : List fx_D := []
def km347_x : fx_X := ([], [(92, 12, 41)], [], [], [], [(22, 410, 12, km329_c)])
set_option maxRecDepth 100000 in
theorem km347_k : fx_chk TM 6 km347_c 0 km347_x t_X12_missedBy km347_a km347_s 26 = true := by decide +kernel
set_option maxRecDepth 100000 in
theorem km347 {l : Launch} {E : (Nat → Prop) → State → Prop} {ad : List Nat} {D : va_G} {cy : Nat → ClassId} (h : fx_env E D classes (tys cy) nestW) : fx_Met l yX12_missedBy (.code yX12_missedBy cX12_missedBy 6 (some .int) :: wsL_law) ({ frames := 4, cells := 0, slots := 0, locals := 90 }) E (gsM, TM, cy, IM) ad D classes km347_c :=
  fx_sound (x := km347_x) (tb := t_X12_missedBy) (an := km347_a) (sp := km347_s) (rk := 0) 26 h (im_frA (by decide +kernel)) (im_frF (by decide +kernel)) (ht_tys cy) (by decide) rfl ⟨fx_an, (fx_ac fl_X12_92 (fx_an)), fx_an, fx_an, fx_an, (fx_ac (ev_V (km329 h) (by decide) rfl ⟨by decide, by decide⟩ iV_X12_missOf g_X12_410) (fx_an))⟩ d_X12_missedBy km347_k
theorem km81_i {l : Launch} {E : (Nat → Prop) → State → Prop} {ad : List Nat} {D : va_G} {cy : Nat → ClassId} (h : fx_env E D classes (tys cy) nestW) : fx_Met l yX12_drop (.code yX12_drop cX12_drop 3 none :: wsL_law) ({ frames := 0, cells := 0, slots := 0, locals := 0 }) E (gsM, TM, cy, IM) ad D classes km81_c := fx_lift (km81 h) (im_lift (by decide +kernel))
-- X12_goRound 0 i ('c', 3) +
def km348_c : fx_C := ([.inr (.inr 1), .inl (0, 2)], [((0, 41), .inr (.inr 27)), ((2, 12), .inl (3, 3))], [(some (.inl (0, 8)), [.inr (.inr 1), .inl (0, 2)], [((0, 41), .inr (.inr 27)), ((2, 2), .inl (0, 0)), ((2, 12), .inl (2, 2))])], [(12, 40), (1000, 25), (1000, 26)])
def km348_a : List fx_N := []
def km348_s : List fx_D := []
def km348_x : fx_X := ([], [(92, 12, 41)], [], [], [], [(8, 413, 12, km347_c), (72, 416, 12, km81_c)])
set_option maxRecDepth 100000 in
theorem km348_k : fx_chk TM 4 km348_c 0 km348_x t_X12_goRound km348_a km348_s 52 = true := by decide +kernel
set_option maxRecDepth 100000 in
theorem km348 {l : Launch} {E : (Nat → Prop) → State → Prop} {ad : List Nat} {D : va_G} {cy : Nat → ClassId} (h : fx_env E D classes (tys cy) nestW) : fx_Met l yX12_goRound (.code yX12_goRound cX12_goRound 4 (some .int) :: wsL_law) ({ frames := 5, cells := 0, slots := 0, locals := 115 }) E (gsM, TM, cy, IM) ad D classes km348_c :=
  fx_sound (x := km348_x) (tb := t_X12_goRound) (an := km348_a) (sp := km348_s) (rk := 0) 52 h (im_frA (by decide +kernel)) (im_frF (by decide +kernel)) (ht_tys cy) (by decide) rfl ⟨fx_an, (fx_ac fl_X12_92 (fx_an)), fx_an, fx_an, fx_an, (fx_ac (ev_V (km347 h) (by decide) rfl ⟨by decide, by decide⟩ iV_X12_missedBy g_X12_413) (fx_ac (ev_V (km81_i h) (by decide) rfl ⟨by decide, by decide⟩ iV_X12_drop g_X12_416) (fx_an)))⟩ d_X12_goRound km348_k
-- X12_missedBy 0 i ('c', 4) +
def km349_c : fx_C := ([.inr (.inr 1), .inl (0, 1)], [((0, 41), .inr (.inr 27)), ((2, 12), .inl (4, 4))], [(some (.inl (0, 0)), [.inr (.inr 1), .inl (0, 1)], []), (some (.inl (1, 1)), [.inr (.inr 1), .inl (0, 1)], []), (some (.inl (1, 3)), [.inr (.inr 1), .inl (0, 1)], []), (some (.inl (2, 2)), [.inr (.inr 1), .inl (0, 1)], []), (some (.inl (3, 3)), [.inr (.inr 1), .inl (0, 1)], [])], [(12, 40), (1000, 25)])
def km349_a : List fx_N := [(7, [(2, .inl (-1, -1)), (0, .inr (.inr 1)), (1, .inl (0, 1)), (3, .inl (0, 0)), (4, .inl (0, 0))], [((1, 41), .inr (.inr 27)), ((5, 12), .inl (4, 4))], [(0, 2), (0, 0), (0, 0)], [(0, 1), (1, 2)]), (7, [(2, .inl (0, 0)), (0, .inr (.inr 1)), (1, .inl (0, 1)), (3, .inl (-2147483648, 2147483647)), (4, .inl (1, 4))], [((1, 41), .inr (.inr 27)), ((5, 12), .inl (4, 4))], [(0, 1), (1, 4), (0, 0)], [(0, 1), (1, 2)]), (7, [(2, .inl (1, 1)), (0, .inr (.inr 1)), (1, .inl (0, 1)), (3, .inl (-2147483648, 2147483647)), (4, .inl (2, 4))], [((1, 41), .inr (.inr 27)), ((5, 12), .inl (4, 4))], [(0, 3), (1, 4), (0, 0)], [(0, 1), (1, 2)]), (7, [(2, .inl (1, 3)), (0, .inr (.inr 1)), (1, .inl (0, 1)), (3, .inl (-2147483648, 2147483647)), (4, .inl (2, 4))], [((1, 41), .inr (.inr 27)), ((5, 12), .inl (4, 4))], [(0, 0), (1, 4), (0, 0)], [(0, 1), (1, 2)]), (7, [(2, .inl (2, 2)), (0, .inr (.inr 1)), (1, .inl (0, 1)), (3, .inl (-2147483648, 2147483647)), (4, .inl (3, 4))], [((1, 41), .inr (.inr 27)), ((5, 12), .inl (4, 4))], [(0, 5), (1, 4), (0, 0)], [(0, 1), (1, 2)]), (7, [(2, .inl (3, 3)), (0, .inr (.inr 1)), (1, .inl (0, 1)), (3, .inl (-2147483648, 2147483647)), (4, .inl (4, 4))], [((1, 41), .inr (.inr 27)), ((5, 12), .inl (4, 4))], [(0, 4), (0, 0), (0, 0)], [(0, 1), (1, 2)])]
def km349_s : List fx_D := []
def km349_x : fx_X := ([], [(92, 12, 41)], [], [], [], [(22, 410, 12, km329_c)])
set_option maxRecDepth 100000 in
theorem km349_k : fx_chk TM 6 km349_c 0 km349_x t_X12_missedBy km349_a km349_s 26 = true := by decide +kernel
set_option maxRecDepth 100000 in
theorem km349 {l : Launch} {E : (Nat → Prop) → State → Prop} {ad : List Nat} {D : va_G} {cy : Nat → ClassId} (h : fx_env E D classes (tys cy) nestW) : fx_Met l yX12_missedBy (.code yX12_missedBy cX12_missedBy 6 (some .int) :: wsL_law) ({ frames := 4, cells := 0, slots := 0, locals := 90 }) E (gsM, TM, cy, IM) ad D classes km349_c :=
  fx_sound (x := km349_x) (tb := t_X12_missedBy) (an := km349_a) (sp := km349_s) (rk := 0) 26 h (im_frA (by decide +kernel)) (im_frF (by decide +kernel)) (ht_tys cy) (by decide) rfl ⟨fx_an, (fx_ac fl_X12_92 (fx_an)), fx_an, fx_an, fx_an, (fx_ac (ev_V (km329 h) (by decide) rfl ⟨by decide, by decide⟩ iV_X12_missOf g_X12_410) (fx_an))⟩ d_X12_missedBy km349_k
theorem km82_i {l : Launch} {E : (Nat → Prop) → State → Prop} {ad : List Nat} {D : va_G} {cy : Nat → ClassId} (h : fx_env E D classes (tys cy) nestW) : fx_Met l yX12_drop (.code yX12_drop cX12_drop 3 none :: wsL_law) ({ frames := 0, cells := 0, slots := 0, locals := 0 }) E (gsM, TM, cy, IM) ad D classes km82_c := fx_lift (km82 h) (im_lift (by decide +kernel))
-- X12_goRound 0 i ('c', 4) +
def km350_c : fx_C := ([.inr (.inr 1), .inl (0, 2)], [((0, 41), .inr (.inr 27)), ((2, 12), .inl (4, 4))], [(some (.inl (0, 8)), [.inr (.inr 1), .inl (0, 2)], [((0, 41), .inr (.inr 27)), ((2, 3), .inl (0, 0)), ((2, 12), .inl (3, 3))])], [(12, 40), (1000, 25), (1000, 26)])
def km350_a : List fx_N := []
def km350_s : List fx_D := []
def km350_x : fx_X := ([], [(92, 12, 41)], [], [], [], [(8, 413, 12, km349_c), (72, 416, 12, km82_c)])
set_option maxRecDepth 100000 in
theorem km350_k : fx_chk TM 4 km350_c 0 km350_x t_X12_goRound km350_a km350_s 52 = true := by decide +kernel
set_option maxRecDepth 100000 in
theorem km350 {l : Launch} {E : (Nat → Prop) → State → Prop} {ad : List Nat} {D : va_G} {cy : Nat → ClassId} (h : fx_env E D classes (tys cy) nestW) : fx_Met l yX12_goRound (.code yX12_goRound cX12_goRound 4 (some .int) :: wsL_law) ({ frames := 5, cells := 0, slots := 0, locals := 115 }) E (gsM, TM, cy, IM) ad D classes km350_c :=
  fx_sound (x := km350_x) (tb := t_X12_goRound) (an := km350_a) (sp := km350_s) (rk := 0) 52 h (im_frA (by decide +kernel)) (im_frF (by decide +kernel)) (ht_tys cy) (by decide) rfl ⟨fx_an, (fx_ac fl_X12_92 (fx_an)), fx_an, fx_an, fx_an, (fx_ac (ev_V (km349 h) (by decide) rfl ⟨by decide, by decide⟩ iV_X12_missedBy g_X12_413) (fx_ac (ev_V (km82_i h) (by decide) rfl ⟨by decide, by decide⟩ iV_X12_drop g_X12_416) (fx_an)))⟩ d_X12_goRound km350_k
-- X12_missedBy 0 i ('c', 5) +
def km351_c : fx_C := ([.inr (.inr 1), .inl (0, 1)], [((0, 41), .inr (.inr 27)), ((2, 12), .inl (5, 5))], [(some (.inl (0, 0)), [.inr (.inr 1), .inl (0, 1)], []), (some (.inl (1, 1)), [.inr (.inr 1), .inl (0, 1)], []), (some (.inl (1, 4)), [.inr (.inr 1), .inl (0, 1)], []), (some (.inl (2, 2)), [.inr (.inr 1), .inl (0, 1)], []), (some (.inl (3, 3)), [.inr (.inr 1), .inl (0, 1)], []), (some (.inl (4, 4)), [.inr (.inr 1), .inl (0, 1)], [])], [(12, 40), (1000, 25)])
def km351_a : List fx_N := [(7, [(2, .inl (-1, -1)), (0, .inr (.inr 1)), (1, .inl (0, 1)), (3, .inl (0, 0)), (4, .inl (0, 0))], [((1, 41), .inr (.inr 27)), ((5, 12), .inl (5, 5))], [(0, 2), (0, 0), (0, 0)], [(0, 1), (1, 2)]), (7, [(2, .inl (0, 0)), (0, .inr (.inr 1)), (1, .inl (0, 1)), (3, .inl (-2147483648, 2147483647)), (4, .inl (1, 5))], [((1, 41), .inr (.inr 27)), ((5, 12), .inl (5, 5))], [(0, 1), (1, 4), (0, 0)], [(0, 1), (1, 2)]), (7, [(2, .inl (1, 1)), (0, .inr (.inr 1)), (1, .inl (0, 1)), (3, .inl (-2147483648, 2147483647)), (4, .inl (2, 5))], [((1, 41), .inr (.inr 27)), ((5, 12), .inl (5, 5))], [(0, 3), (1, 4), (0, 0)], [(0, 1), (1, 2)]), (7, [(2, .inl (1, 4)), (0, .inr (.inr 1)), (1, .inl (0, 1)), (3, .inl (-2147483648, 2147483647)), (4, .inl (2, 5))], [((1, 41), .inr (.inr 27)), ((5, 12), .inl (5, 5))], [(0, 0), (1, 4), (0, 0)], [(0, 1), (1, 2)]), (7, [(2, .inl (2, 2)), (0, .inr (.inr 1)), (1, .inl (0, 1)), (3, .inl (-2147483648, 2147483647)), (4, .inl (3, 5))], [((1, 41), .inr (.inr 27)), ((5, 12), .inl (5, 5))], [(0, 4), (1, 4), (0, 0)], [(0, 1), (1, 2)]), (7, [(2, .inl (3, 3)), (0, .inr (.inr 1)), (1, .inl (0, 1)), (3, .inl (-2147483648, 2147483647)), (4, .inl (4, 5))], [((1, 41), .inr (.inr 27)), ((5, 12), .inl (5, 5))], [(0, 6), (1, 4), (0, 0)], [(0, 1), (1, 2)]), (7, [(2, .inl (4, 4)), (0, .inr (.inr 1)), (1, .inl (0, 1)), (3, .inl (-2147483648, 2147483647)), (4, .inl (5, 5))], [((1, 41), .inr (.inr 27)), ((5, 12), .inl (5, 5))], [(0, 5), (0, 0), (0, 0)], [(0, 1), (1, 2)])]
def km351_s : List fx_D := []
def km351_x : fx_X := ([], [(92, 12, 41)], [], [], [], [(22, 410, 12, km329_c)])
set_option maxRecDepth 100000 in
theorem km351_k : fx_chk TM 6 km351_c 0 km351_x t_X12_missedBy km351_a km351_s 26 = true := by decide +kernel
set_option maxRecDepth 100000 in
theorem km351 {l : Launch} {E : (Nat → Prop) → State → Prop} {ad : List Nat} {D : va_G} {cy : Nat → ClassId} (h : fx_env E D classes (tys cy) nestW) : fx_Met l yX12_missedBy (.code yX12_missedBy cX12_missedBy 6 (some .int) :: wsL_law) ({ frames := 4, cells := 0, slots := 0, locals := 90 }) E (gsM, TM, cy, IM) ad D classes km351_c :=
  fx_sound (x := km351_x) (tb := t_X12_missedBy) (an := km351_a) (sp := km351_s) (rk := 0) 26 h (im_frA (by decide +kernel)) (im_frF (by decide +kernel)) (ht_tys cy) (by decide) rfl ⟨fx_an, (fx_ac fl_X12_92 (fx_an)), fx_an, fx_an, fx_an, (fx_ac (ev_V (km329 h) (by decide) rfl ⟨by decide, by decide⟩ iV_X12_missOf g_X12_410) (fx_an))⟩ d_X12_missedBy km351_k
