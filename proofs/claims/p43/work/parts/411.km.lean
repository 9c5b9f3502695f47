-- X12_missedBy 0 i ('any',) +
def km34_c : fx_C := ([.inr (.inr 1), .inl (0, 1)], [((0, 41), .inr (.inr 43)), ((2, 12), .inl (1, 12))], [(some (.inl (0, 11)), [.inr (.inr 1), .inl (0, 1)], [])], [(12, 40), (1000, 34)])
def km34_a : List fx_N := [(7, [(2, .inl (-1, -1)), (0, .inr (.inr 1)), (1, .inl (0, 1)), (3, .inl (0, 0)), (4, .inl (0, 0))], [((1, 41), .inr (.inr 43)), ((5, 12), .inl (1, 12))], [(0, 2), (0, 0), (0, 0)], [(0, 1), (1, 2)]), (7, [(2, .inl (0, 0)), (0, .inr (.inr 1)), (1, .inl (0, 1)), (3, .inl (-2147483648, 2147483647)), (4, .inl (1, 12))], [((1, 41), .inr (.inr 43)), ((5, 12), .inl (1, 12))], [(0, 1), (1, 4), (0, 0)], [(0, 1), (1, 2)]), (7, [(2, .inl (1, 1)), (0, .inr (.inr 1)), (1, .inl (0, 1)), (3, .inl (-2147483648, 2147483647)), (4, .inl (2, 12))], [((1, 41), .inr (.inr 43)), ((5, 12), .inl (2, 12))], [(0, 3), (1, 4), (0, 0)], [(0, 1), (1, 2)]), (7, [(2, .inl (1, 11)), (0, .inr (.inr 1)), (1, .inl (0, 1)), (3, .inl (-2147483648, 2147483647)), (4, .inl (2, 12))], [((1, 41), .inr (.inr 43)), ((5, 12), .inl (2, 12))], [(0, 0), (1, 4), (0, 0)], [(0, 1), (1, 2)]), (7, [(2, .inl (2, 2)), (0, .inr (.inr 1)), (1, .inl (0, 1)), (3, .inl (-2147483648, 2147483647)), (4, .inl (3, 12))], [((1, 41), .inr (.inr 43)), ((5, 12), .inl (3, 12))], [(0, 4), (1, 4), (0, 0)], [(0, 1), (1, 2)]), (7, [(2, .inl (3, 3)), (0, .inr (.inr 1)), (1, .inl (0, 1)), (3, .inl (-2147483648, 2147483647)), (4, .inl (4, 12))], [((1, 41), .inr (.inr 43)), ((5, 12), .inl (4, 12))], [(0, 5), (1, 4), (0, 0)], [(0, 1), (1, 2)]), (7, [(2, .inl (4, 4)), (0, .inr (.inr 1)), (1, .inl (0, 1)), (3, .inl (-2147483648, 2147483647)), (4, .inl (5, 12))], [((1, 41), .inr (.inr 43)), ((5, 12), .inl (5, 12))], [(0, 6), (1, 4), (0, 0)], [(0, 1), (1, 2)]), (7, [(2, .inl (5, 5)), (0, .inr (.inr 1)), (1, .inl (0, 1)), (3, .inl (-2147483648, 2147483647)), (4, .inl (6, 12))], [((1, 41), .inr (.inr 43)), ((5, 12), .inl (6, 12))], [(0, 7), (1, 4), (0, 0)], [(0, 1), (1, 2)]), (7, [(2, .inl (6, 6)), (0, .inr (.inr 1)), (1, .inl (0, 1)), (3, .inl (-2147483648, 2147483647)), (4, .inl (7, 12))], [((1, 41), .inr (.inr 43)), ((5, 12), .inl (7, 12))], [(0, 8), (1, 4), (0, 0)], [(0, 1), (1, 2)]), (7, [(2, .inl (7, 7)), (0, .inr (.inr 1)), (1, .inl (0, 1)), (3, .inl (-2147483648, 2147483647)), (4, .inl (8, 12))], [((1, 41), .inr (.inr 43)), ((5, 12), .inl (8, 12))], [(0, 9), (1, 4), (0, 0)], [(0, 1), (1, 2)]), (7, [(2, .inl (8, 8)), (0, .inr (.inr 1)), (1, .inl (0, 1)), (3, .inl (-2147483648, 2147483647)), (4, .inl (9, 12))], [((1, 41), .inr (.inr 43)), ((5, 12), .inl (9, 12))], [(0, 10), (1, 4), (0, 0)], [(0, 1), (1, 2)]), (7, [(2, .inl (9, 9)), (0, .inr (.inr 1)), (1, .inl (0, 1)), (3, .inl (-2147483648, 2147483647)), (4, .inl (10, 12))], [((1, 41), .inr (.inr 43)), ((5, 12), .inl (10, 12))], [(0, 11), (1, 4), (0, 0)], [(0, 1), (1, 2)]), (7, [(2, .inl (10, 10)), (0, .inr (.inr 1)), (1, .inl (0, 1)), (3, .inl (-2147483648, 2147483647)), (4, .inl (11, 12))], [((1, 41), .inr (.inr 43)), ((5, 12), .inl (11, 12))], [(0, 13), (1, 4), (0, 0)], [(0, 1), (1, 2)]), (7, [(2, .inl (11, 11)), (0, .inr (.inr 1)), (1, .inl (0, 1)), (3, .inl (-2147483648, 2147483647)), (4, .inl (12, 12))], [((1, 41), .inr (.inr 43)), ((5, 12), .inl (12, 12))], [(0, 12), (0, 0), (0, 0)], [(0, 1), (1, 2)])]
def km34_s : List fx_D := []
def km34_x : fx_X := ([], [(92, 12, 41)], [], [], [], [(22, 410, 12, km26_c)])
set_option maxRecDepth 100000 in
theorem km34_k : fx_chk TM 6 km34_c 0 km34_x t_X12_missedBy km34_a km34_s 26 = true := by decide +kernel
set_option maxRecDepth 100000 in
theorem km34 {l : Launch} {E : (Nat → Prop) → State → Prop} {ad : List Nat} {D : va_G} {cy : Nat → ClassId} (h : fx_env E D classes (tys cy) nestW) : fx_Met l yX12_missedBy (.code yX12_missedBy cX12_missedBy 6 (some .int) :: wsL_law) ({ frames := 2, cells := 0, slots := 0, locals := 44 }) E (gsM, TM, cy, IM) ad D classes km34_c :=
  fx_sound (x := km34_x) (tb := t_X12_missedBy) (an := km34_a) (sp := km34_s) (rk := 0) 26 h (im_frA (by decide +kernel)) (im_frF (by decide +kernel)) (ht_tys cy) (by decide) rfl ⟨fx_an, (fx_ac fl_X12_92 (fx_an)), fx_an, fx_an, fx_an, (fx_ac (ev_V (km26 h) (by decide) rfl ⟨by decide, by decide⟩ iV_X12_missOf g_X12_410) (fx_an))⟩ d_X12_missedBy km34_k
-- X12_drop 0 i ('any',) +
def km35_c : fx_C := ([.inr (.inr 1), .inl (0, 11)], [((0, 41), .inr (.inr 43)), ((2, 12), .inl (1, 12))], [(none, [.inr (.inr 1), .inl (0, 11)], [((0, 41), .inr (.inr 43)), ((2, 12), .inl (0, 11))])], [(1000, 42)])
def km35_a : List fx_N := [(2, [(0, .inr (.inr 1)), (1, .inl (0, 11)), (2, .inl (0, 11))], [((0, 41), .inr (.inr 43)), ((3, 12), .inl (1, 12))], [(0, 0), (1, 2), (0, 0)], [(0, 0), (1, 1)])]
def km35_s : List fx_D := []
def km35_x : fx_X := ([], [(92, 12, 41)], [], [], [], [])
set_option maxRecDepth 100000 in
theorem km35_k : fx_chk TM 3 km35_c 9 km35_x t_X12_drop km35_a km35_s 29 = true := by decide +kernel
set_option maxRecDepth 100000 in
theorem km35 {l : Launch} {E : (Nat → Prop) → State → Prop} {ad : List Nat} {D : va_G} {cy : Nat → ClassId} (h : fx_env E D classes (tys cy) nestW) : fx_Met l yX12_drop (.code yX12_drop cX12_drop 3 none :: wsL_law) ({ frames := 0, cells := 0, slots := 0, locals := 0 }) E (gsM, TM, cy, fun _ => True) ad D classes km35_c :=
  fx_sound (x := km35_x) (tb := t_X12_drop) (an := km35_a) (sp := km35_s) (rk := 9) 29 h (fun _ _ _ _ _ _ => trivial) (fun _ _ _ _ _ _ => trivial) (ht_tys cy) (by decide) rfl ⟨fx_an, (fx_ac fl_X12_92 (fx_an)), fx_an, fx_an, fx_an, fx_an⟩ d_X12_drop km35_k
theorem km35_i {l : Launch} {E : (Nat → Prop) → State → Prop} {ad : List Nat} {D : va_G} {cy : Nat → ClassId} (h : fx_env E D classes (tys cy) nestW) : fx_Met l yX12_drop (.code yX12_drop cX12_drop 3 none :: wsL_law) ({ frames := 0, cells := 0, slots := 0, locals := 0 }) E (gsM, TM, cy, IM) ad D classes km35_c := fx_lift (km35 h) (im_lift (by decide +kernel))
-- X12_goRound 0 i ('any',) +
def km36_c : fx_C := ([.inr (.inr 1), .inl (0, 2)], [((0, 41), .inr (.inr 43)), ((2, 12), .inl (1, 12))], [(some (.inl (0, 8)), [.inr (.inr 1), .inl (0, 2)], [((0, 41), .inr (.inr 43)), ((2, 12), .inl (0, 11))])], [(12, 40), (1000, 34), (1000, 42)])
def km36_a : List fx_N := []
def km36_s : List fx_D := []
def km36_x : fx_X := ([], [(92, 12, 41)], [], [], [], [(8, 413, 12, km34_c), (72, 416, 12, km35_c)])
set_option maxRecDepth 100000 in
theorem km36_k : fx_chk TM 4 km36_c 0 km36_x t_X12_goRound km36_a km36_s 52 = true := by decide +kernel
set_option maxRecDepth 100000 in
theorem km36 {l : Launch} {E : (Nat → Prop) → State → Prop} {ad : List Nat} {D : va_G} {cy : Nat → ClassId} (h : fx_env E D classes (tys cy) nestW) : fx_Met l yX12_goRound (.code yX12_goRound cX12_goRound 4 (some .int) :: wsL_law) ({ frames := 3, cells := 0, slots := 0, locals := 69 }) E (gsM, TM, cy, IM) ad D classes km36_c :=
  fx_sound (x := km36_x) (tb := t_X12_goRound) (an := km36_a) (sp := km36_s) (rk := 0) 52 h (im_frA (by decide +kernel)) (im_frF (by decide +kernel)) (ht_tys cy) (by decide) rfl ⟨fx_an, (fx_ac fl_X12_92 (fx_an)), fx_an, fx_an, fx_an, (fx_ac (ev_V (km34 h) (by decide) rfl ⟨by decide, by decide⟩ iV_X12_missedBy g_X12_413) (fx_ac (ev_V (km35_i h) (by decide) rfl ⟨by decide, by decide⟩ iV_X12_drop g_X12_416) (fx_an)))⟩ d_X12_goRound km36_k
theorem km33_i {l : Launch} {E : (Nat → Prop) → State → Prop} {ad : List Nat} {D : va_G} {cy : Nat → ClassId} (h : fx_env E D classes (tys cy) nestW) : fx_Met l yX12_keepAct (.code yX12_keepAct cX12_keepAct 2 none :: wsL_law) ({ frames := 0, cells := 0, slots := 0, locals := 0 }) E (gsM, TM, cy, IM) ad D classes km33_c := by
  sorry
theorem km32_i {l : Launch} {E : (Nat → Prop) → State → Prop} {ad : List Nat} {D : va_G} {cy : Nat → ClassId} (h : fx_env E D classes (tys cy) nestW) : fx_Met l yX12_isRule (.code yX12_isRule cX12_isRule 1 (some .boolean) :: wsL_law) ({ frames := 0, cells := 0, slots := 0, locals := 0 }) E (gsM, TM, cy, IM) ad D classes km32_c := fx_lift (km32 h) (im_lift (by decide +kernel))
-- X12_round 0 i
def km37_c : fx_C := ([.inr (.inr 1), .inl (-2147483648, 2147483647)], [], [(some (.inl (-1, -1)), [.inr (.inr 1), .inl (-2147483648, 2147483647)], []), (some (.inl (0, 8)), [.inr (.inr 1), .inl (0, 2)], [((0, 49), .inl (1, 40)), ((0, 50), .inl (0, 0)), ((0, 41), .inr (.inr 43)), ((4, 12), .inl (0, 11))])], [(12, 40), (12, 49), (12, 50), (1000, 34), (1000, 42), (1000, 49)])
def km37_a : List fx_N := []
def km37_s : List fx_D := []
def km37_x : fx_X := ([], [(92, 12, 41)], [], [], [], [(1, 419, 1000, km32_c), (33, 422, 12, km33_c), (38, 425, 12, km36_c)])
set_option maxRecDepth 100000 in
theorem km37_k : fx_chk TM 2 km37_c 0 km37_x t_X12_round km37_a km37_s 22 = true := by decide +kernel
set_option maxRecDepth 100000 in
theorem km37 {l : Launch} {E : (Nat → Prop) → State → Prop} {ad : List Nat} {D : va_G} {cy : Nat → ClassId} (h : fx_env E D classes (tys cy) nestW) : fx_Met l yX12_round (.code yX12_round cX12_round 2 (some .int) :: wsL_law) ({ frames := 4, cells := 0, slots := 0, locals := 92 }) E (gsM, TM, cy, IM) ad D classes km37_c :=
  fx_sound (x := km37_x) (tb := t_X12_round) (an := km37_a) (sp := km37_s) (rk := 0) 22 h (im_frA (by decide +kernel)) (im_frF (by decide +kernel)) (ht_tys cy) (by decide) rfl ⟨fx_an, (fx_ac fl_X12_92 (fx_an)), fx_an, fx_an, fx_an, (fx_ac (ev_S (km32_i h) ⟨by decide, by decide⟩ iS_X12_isRule g_X12_419) (fx_ac (ev_V (km33_i h) (by decide) rfl ⟨by decide, by decide⟩ iV_X12_keepAct g_X12_422) (fx_ac (ev_V (km36 h) (by decide) rfl ⟨by decide, by decide⟩ iV_X12_goRound g_X12_425) (fx_an))))⟩ d_X12_round km37_k
-- X12_leave 0 i
def km38_c : fx_C := ([.inr (.inr 1), .inl (-2147483648, 2147483647)], [], [(some (.inl (0, 8)), [.inr (.inr 1), .inl (0, 11)], [((0, 49), .inl (1, 40)), ((0, 50), .inl (0, 0)), ((0, 41), .inr (.inr 43)), ((4, 12), .inl (0, 11))]), (some (.inl (-1, -1)), [.inr (.inr 1), .inl (-2147483648, 2147483647)], [])], [(12, 49), (12, 50), (1000, 42), (1000, 49)])
def km38_a : List fx_N := []
def km38_s : List fx_D := []
def km38_x : fx_X := ([], [(92, 12, 41)], [], [], [], [(2, 393, 12, km4_c), (11, 422, 12, km33_c), (25, 416, 12, km35_c)])
set_option maxRecDepth 100000 in
theorem km38_k : fx_chk TM 3 km38_c 0 km38_x t_X12_leave km38_a km38_s 20 = true := by decide +kernel
set_option maxRecDepth 100000 in
theorem km38 {l : Launch} {E : (Nat → Prop) → State → Prop} {ad : List Nat} {D : va_G} {cy : Nat → ClassId} (h : fx_env E D classes (tys cy) nestW) : fx_Met l yX12_leave (.code yX12_leave cX12_leave 3 (some .int) :: wsL_law) ({ frames := 2, cells := 0, slots := 0, locals := 43 }) E (gsM, TM, cy, fun _ => True) ad D classes km38_c :=
  fx_sound (x := km38_x) (tb := t_X12_leave) (an := km38_a) (sp := km38_s) (rk := 0) 20 h (fun _ _ _ _ _ _ => trivial) (fun _ _ _ _ _ _ => trivial) (ht_tys cy) (by decide) rfl ⟨fx_an, (fx_ac fl_X12_92 (fx_an)), fx_an, fx_an, fx_an, (fx_ac (ev_V (km4 h) (by decide) rfl ⟨by decide, by decide⟩ iV_X12_isPlace g_X12_393) (fx_ac (ev_V (km33 h) (by decide) rfl ⟨by decide, by decide⟩ iV_X12_keepAct g_X12_422) (fx_ac (ev_V (km35 h) (by decide) rfl ⟨by decide, by decide⟩ iV_X12_drop g_X12_416) (fx_an))))⟩ d_X12_leave km38_k
-- X12_isIn i i i (-2147483648, 2147483647) (0, 0) (0, 0)
def km39_c : fx_C := ([.inl (-2147483648, 2147483647), .inl (0, 0), .inl (0, 0)], [], [(some (.inl (1, 1)), [.inl (0, 0), .inl (0, 0), .inl (0, 0)], []), (some (.inl (0, 0)), [.inl (-2147483648, 2147483647), .inl (0, 0), .inl (0, 0)], [])], [])
def km39_a : List fx_N := []
def km39_s : List fx_D := []
def km39_x : fx_X := ([], [], [], [], [], [])
set_option maxRecDepth 100000 in
theorem km39_k : fx_chk TM 3 km39_c 3 km39_x t_X12_isIn km39_a km39_s 11 = true := by decide +kernel
set_option maxRecDepth 100000 in
theorem km39 {l : Launch} {E : (Nat → Prop) → State → Prop} {ad : List Nat} {D : va_G} {cy : Nat → ClassId} (h : fx_env E D classes (tys cy) nestW) : fx_Met l yX12_isIn (.code yX12_isIn cX12_isIn 3 (some .boolean) :: wsL_law) ({ frames := 0, cells := 0, slots := 0, locals := 0 }) E (gsM, TM, cy, fun _ => True) ad D classes km39_c :=
  fx_sound (x := km39_x) (tb := t_X12_isIn) (an := km39_a) (sp := km39_s) (rk := 3) 11 h (fun _ _ _ _ _ _ => trivial) (fun _ _ _ _ _ _ => trivial) (ht_tys cy) (by decide) rfl ⟨fx_an, fx_an, fx_an, fx_an, fx_an, fx_an⟩ d_X12_isIn km39_k
-- X12_isIn i i i (-2147483648, 2147483647) (0, 0) (2, 2)
def km40_c : fx_C := ([.inl (-2147483648, 2147483647), .inl (0, 0), .inl (2, 2)], [], [(some (.inl (1, 1)), [.inl (0, 2), .inl (0, 0), .inl (2, 2)], []), (some (.inl (0, 0)), [.inl (-2147483648, 2147483647), .inl (0, 0), .inl (2, 2)], [])], [])
def km40_a : List fx_N := []
def km40_s : List fx_D := []
def km40_x : fx_X := ([], [], [], [], [], [])
set_option maxRecDepth 100000 in
theorem km40_k : fx_chk TM 3 km40_c 3 km40_x t_X12_isIn km40_a km40_s 11 = true := by decide +kernel
set_option maxRecDepth 100000 in
theorem km40 {l : Launch} {E : (Nat → Prop) → State → Prop} {ad : List Nat} {D : va_G} {cy : Nat → ClassId} (h : fx_env E D classes (tys cy) nestW) : fx_Met l yX12_isIn (.code yX12_isIn cX12_isIn 3 (some .boolean) :: wsL_law) ({ frames := 0, cells := 0, slots := 0, locals := 0 }) E (gsM, TM, cy, fun _ => True) ad D classes km40_c :=
  fx_sound (x := km40_x) (tb := t_X12_isIn) (an := km40_a) (sp := km40_s) (rk := 3) 11 h (fun _ _ _ _ _ _ => trivial) (fun _ _ _ _ _ _ => trivial) (ht_tys cy) (by decide) rfl ⟨fx_an, fx_an, fx_an, fx_an, fx_an, fx_an⟩ d_X12_isIn km40_k
-- X12_isIn i i i (-2147483648, 2147483647) (0, 0) (3, 3)
def km41_c : fx_C := ([.inl (-2147483648, 2147483647), .inl (0, 0), .inl (3, 3)], [], [(some (.inl (1, 1)), [.inl (0, 3), .inl (0, 0), .inl (3, 3)], []), (some (.inl (0, 0)), [.inl (-2147483648, 2147483647), .inl (0, 0), .inl (3, 3)], [])], [])
def km41_a : List fx_N := []
def km41_s : List fx_D := []
def km41_x : fx_X := ([], [], [], [], [], [])
set_option maxRecDepth 100000 in
theorem km41_k : fx_chk TM 3 km41_c 3 km41_x t_X12_isIn km41_a km41_s 11 = true := by decide +kernel
set_option maxRecDepth 100000 in
theorem km41 {l : Launch} {E : (Nat → Prop) → State → Prop} {ad : List Nat} {D : va_G} {cy : Nat → ClassId} (h : fx_env E D classes (tys cy) nestW) : fx_Met l yX12_isIn (.code yX12_isIn cX12_isIn 3 (some .boolean) :: wsL_law) ({ frames := 0, cells := 0, slots := 0, locals := 0 }) E (gsM, TM, cy, fun _ => True) ad D classes km41_c :=
  fx_sound (x := km41_x) (tb := t_X12_isIn) (an := km41_a) (sp := km41_s) (rk := 3) 11 h (fun _ _ _ _ _ _ => trivial) (fun _ _ _ _ _ _ => trivial) (ht_tys cy) (by decide) rfl ⟨fx_an, fx_an, fx_an, fx_an, fx_an, fx_an⟩ d_X12_isIn km41_k
-- X12_isIn i i i (-2147483648, 2147483647) (0, 0) (4, 4)
def km42_c : fx_C := ([.inl (-2147483648, 2147483647), .inl (0, 0), .inl (4, 4)], [], [(some (.inl (1, 1)), [.inl (0, 4), .inl (0, 0), .inl (4, 4)], []), (some (.inl (0, 0)), [.inl (-2147483648, 2147483647), .inl (0, 0), .inl (4, 4)], [])], [])
def km42_a : List fx_N := []
def km42_s : List fx_D := []
def km42_x : fx_X := ([], [], [], [], [], [])
set_option maxRecDepth 100000 in
theorem km42_k : fx_chk TM 3 km42_c 3 km42_x t_X12_isIn km42_a km42_s 11 = true := by decide +kernel
set_option maxRecDepth 100000 in
theorem km42 {l : Launch} {E : (Nat → Prop) → State → Prop} {ad : List Nat} {D : va_G} {cy : Nat → ClassId} (h : fx_env E D classes (tys cy) nestW) : fx_Met l yX12_isIn (.code yX12_isIn cX12_isIn 3 (some .boolean) :: wsL_law) ({ frames := 0, cells := 0, slots := 0, locals := 0 }) E (gsM, TM, cy, fun _ => True) ad D classes km42_c :=
  fx_sound (x := km42_x) (tb := t_X12_isIn) (an := km42_a) (sp := km42_s) (rk := 3) 11 h (fun _ _ _ _ _ _ => trivial) (fun _ _ _ _ _ _ => trivial) (ht_tys cy) (by decide) rfl ⟨fx_an, fx_an, fx_an, fx_an, fx_an, fx_an⟩ d_X12_isIn km42_k
-- X12_isIn i i i (-2147483648, 2147483647) (0, 0) (5, 5)
def km43_c : fx_C := ([.inl (-2147483648, 2147483647), .inl (0, 0), .inl (5, 5)], [], [(some (.inl (1, 1)), [.inl (0, 5), .inl (0, 0), .inl (5, 5)], []), (some (.inl (0, 0)), [.inl (-2147483648, 2147483647), .inl (0, 0), .inl (5, 5)], [])], [])
def km43_a : List fx_N := []
def km43_s : List fx_D := []
def km43_x : fx_X := ([], [], [], [], [], [])
set_option maxRecDepth 100000 in
theorem km43_k : fx_chk TM 3 km43_c 3 km43_x t_X12_isIn km43_a km43_s 11 = true := by decide +kernel
set_option maxRecDepth 100000 in
theorem km43 {l : Launch} {E : (Nat → Prop) → State → Prop} {ad : List Nat} {D : va_G} {cy : Nat → ClassId} (h : fx_env E D classes (tys cy) nestW) : fx_Met l yX12_isIn (.code yX12_isIn cX12_isIn 3 (some .boolean) :: wsL_law) ({ frames := 0, cells := 0, slots := 0, locals := 0 }) E (gsM, TM, cy, fun _ => True) ad D classes km43_c :=
  fx_sound (x := km43_x) (tb := t_X12_isIn) (an := km43_a) (sp := km43_s) (rk := 3) 11 h (fun _ _ _ _ _ _ => trivial) (fun _ _ _ _ _ _ => trivial) (ht_tys cy) (by decide) rfl ⟨fx_an, fx_an, fx_an, fx_an, fx_an, fx_an⟩ d_X12_isIn km43_k
-- X12_isIn i i i (-2147483648, 2147483647) (0, 0) (6, 6)
def km44_c : fx_C := ([.inl (-2147483648, 2147483647), .inl (0, 0), .inl (6, 6)], [], [(some (.inl (1, 1)), [.inl (0, 6), .inl (0, 0), .inl (6, 6)], []), (some (.inl (0, 0)), [.inl (-2147483648, 2147483647), .inl (0, 0), .inl (6, 6)], [])], [])
def km44_a : List fx_N := []
def km44_s : List fx_D := []
def km44_x : fx_X := ([], [], [], [], [], [])
set_option maxRecDepth 100000 in
theorem km44_k : fx_chk TM 3 km44_c 3 km44_x t_X12_isIn km44_a km44_s 11 = true := by decide +kernel
set_option maxRecDepth 100000 in
theorem km44 {l : Launch} {E : (Nat → Prop) → State → Prop} {ad : List Nat} {D : va_G} {cy : Nat → ClassId} (h : fx_env E D classes (tys cy) nestW) : fx_Met l yX12_isIn (.code yX12_isIn cX12_isIn 3 (some .boolean) :: wsL_law) ({ frames := 0, cells := 0, slots := 0, locals := 0 }) E (gsM, TM, cy, fun _ => True) ad D classes km44_c :=
  fx_sound (x := km44_x) (tb := t_X12_isIn) (an := km44_a) (sp := km44_s) (rk := 3) 11 h (fun _ _ _ _ _ _ => trivial) (fun _ _ _ _ _ _ => trivial) (ht_tys cy) (by decide) rfl ⟨fx_an, fx_an, fx_an, fx_an, fx_an, fx_an⟩ d_X12_isIn km44_k
-- X12_isIn i i i (-2147483648, 2147483647) (0, 0) (7, 7)
def km45_c : fx_C := ([.inl (-2147483648, 2147483647), .inl (0, 0), .inl (7, 7)], [], [(some (.inl (1, 1)), [.inl (0, 7), .inl (0, 0), .inl (7, 7)], []), (some (.inl (0, 0)), [.inl (-2147483648, 2147483647), .inl (0, 0), .inl (7, 7)], [])], [])
def km45_a : List fx_N := []
def km45_s : List fx_D := []
def km45_x : fx_X := ([], [], [], [], [], [])
set_option maxRecDepth 100000 in
theorem km45_k : fx_chk TM 3 km45_c 3 km45_x t_X12_isIn km45_a km45_s 11 = true := by decide +kernel
set_option maxRecDepth 100000 in
theorem km45 {l : Launch} {E : (Nat → Prop) → State → Prop} {ad : List Nat} {D : va_G} {cy : Nat → ClassId} (h : fx_env E D classes (tys cy) nestW) : fx_Met l yX12_isIn (.code yX12_isIn cX12_isIn 3 (some .boolean) :: wsL_law) ({ frames := 0, cells := 0, slots := 0, locals := 0 }) E (gsM, TM, cy, fun _ => True) ad D classes km45_c :=
  fx_sound (x := km45_x) (tb := t_X12_isIn) (an := km45_a) (sp := km45_s) (rk := 3) 11 h (fun _ _ _ _ _ _ => trivial) (fun _ _ _ _ _ _ => trivial) (ht_tys cy) (by decide) rfl ⟨fx_an, fx_an, fx_an, fx_an, fx_an, fx_an⟩ d_X12_isIn km45_k
-- X12_isIn i i i (-2147483648, 2147483647) (0, 0) (8, 8)
def km46_c : fx_C := ([.inl (-2147483648, 2147483647), .inl (0, 0), .inl (8, 8)], [], [(some (.inl (1, 1)), [.inl (0, 8), .inl (0, 0), .inl (8, 8)], []), (some (.inl (0, 0)), [.inl (-2147483648, 2147483647), .inl (0, 0), .inl (8, 8)], [])], [])
def km46_a : List fx_N := []
def km46_s : List fx_D := []
def km46_x : fx_X := ([], [], [], [], [], [])
set_option maxRecDepth 100000 in
theorem km46_k : fx_chk TM 3 km46_c 3 km46_x t_X12_isIn km46_a km46_s 11 = true := by decide +kernel
set_option maxRecDepth 100000 in
theorem km46 {l : Launch} {E : (Nat → Prop) → State → Prop} {ad : List Nat} {D : va_G} {cy : Nat → ClassId} (h : fx_env E D classes (tys cy) nestW) : fx_Met l yX12_isIn (.code yX12_isIn cX12_isIn 3 (some .boolean) :: wsL_law) ({ frames := 0, cells := 0, slots := 0, locals := 0 }) E (gsM, TM, cy, fun _ => True) ad D classes km46_c :=
  fx_sound (x := km46_x) (tb := t_X12_isIn) (an := km46_a) (sp := km46_s) (rk := 3) 11 h (fun _ _ _ _ _ _ => trivial) (fun _ _ _ _ _ _ => trivial) (ht_tys cy) (by decide) rfl ⟨fx_an, fx_an, fx_an, fx_an, fx_an, fx_an⟩ d_X12_isIn km46_k
-- X12_isIn i i i (-2147483648, 2147483647) (0, 0) (9, 9)
def km47_c : fx_C := ([.inl (-2147483648, 2147483647), .inl (0, 0), .inl (9, 9)], [], [(some (.inl (1, 1)), [.inl (0, 9), .inl (0, 0), .inl (9, 9)], []), (some (.inl (0, 0)), [.inl (-2147483648, 2147483647), .inl (0, 0), .inl (9, 9)], [])], [])
def km47_a : List fx_N := []
def km47_s : List fx_D := []
def km47_x : fx_X := ([], [], [], [], [], [])
set_option maxRecDepth 100000 in
theorem km47_k : fx_chk TM 3 km47_c 3 km47_x t_X12_isIn km47_a km47_s 11 = true := by decide +kernel
set_option maxRecDepth 100000 in
theorem km47 {l : Launch} {E : (Nat → Prop) → State → Prop} {ad : List Nat} {D : va_G} {cy : Nat → ClassId} (h : fx_env E D classes (tys cy) nestW) : fx_Met l yX12_isIn (.code yX12_isIn cX12_isIn 3 (some .boolean) :: wsL_law) ({ frames := 0, cells := 0, slots := 0, locals := 0 }) E (gsM, TM, cy, fun _ => True) ad D classes km47_c :=
  fx_sound (x := km47_x) (tb := t_X12_isIn) (an := km47_a) (sp := km47_s) (rk := 3) 11 h (fun _ _ _ _ _ _ => trivial) (fun _ _ _ _ _ _ => trivial) (ht_tys cy) (by decide) rfl ⟨fx_an, fx_an, fx_an, fx_an, fx_an, fx_an⟩ d_X12_isIn km47_k
-- X12_isIn i i i (-2147483648, 2147483647) (0, 0) (10, 10)
def km48_c : fx_C := ([.inl (-2147483648, 2147483647), .inl (0, 0), .inl (10, 10)], [], [(some (.inl (1, 1)), [.inl (0, 10), .inl (0, 0), .inl (10, 10)], []), (some (.inl (0, 0)), [.inl (-2147483648, 2147483647), .inl (0, 0), .inl (10, 10)], [])], [])
def km48_a : List fx_N := []
def km48_s : List fx_D := []
def km48_x : fx_X := ([], [], [], [], [], [])
set_option maxRecDepth 100000 in
theorem km48_k : fx_chk TM 3 km48_c 3 km48_x t_X12_isIn km48_a km48_s 11 = true := by decide +kernel
set_option maxRecDepth 100000 in
theorem km48 {l : Launch} {E : (Nat → Prop) → State → Prop} {ad : List Nat} {D : va_G} {cy : Nat → ClassId} (h : fx_env E D classes (tys cy) nestW) : fx_Met l yX12_isIn (.code yX12_isIn cX12_isIn 3 (some .boolean) :: wsL_law) ({ frames := 0, cells := 0, slots := 0, locals := 0 }) E (gsM, TM, cy, fun _ => True) ad D classes km48_c :=
  fx_sound (x := km48_x) (tb := t_X12_isIn) (an := km48_a) (sp := km48_s) (rk := 3) 11 h (fun _ _ _ _ _ _ => trivial) (fun _ _ _ _ _ _ => trivial) (ht_tys cy) (by decide) rfl ⟨fx_an, fx_an, fx_an, fx_an, fx_an, fx_an⟩ d_X12_isIn km48_k
-- X12_isIn i i i (-2147483648, 2147483647) (0, 0) (11, 11)
def km49_c : fx_C := ([.inl (-2147483648, 2147483647), .inl (0, 0), .inl (11, 11)], [], [(some (.inl (1, 1)), [.inl (0, 11), .inl (0, 0), .inl (11, 11)], []), (some (.inl (0, 0)), [.inl (-2147483648, 2147483647), .inl (0, 0), .inl (11, 11)], [])], [])
def km49_a : List fx_N := []
def km49_s : List fx_D := []
def km49_x : fx_X := ([], [], [], [], [], [])
set_option maxRecDepth 100000 in
theorem km49_k : fx_chk TM 3 km49_c 3 km49_x t_X12_isIn km49_a km49_s 11 = true := by decide +kernel
set_option maxRecDepth 100000 in
theorem km49 {l : Launch} {E : (Nat → Prop) → State → Prop} {ad : List Nat} {D : va_G} {cy : Nat → ClassId} (h : fx_env E D classes (tys cy) nestW) : fx_Met l yX12_isIn (.code yX12_isIn cX12_isIn 3 (some .boolean) :: wsL_law) ({ frames := 0, cells := 0, slots := 0, locals := 0 }) E (gsM, TM, cy, fun _ => True) ad D classes km49_c :=
  fx_sound (x := km49_x) (tb := t_X12_isIn) (an := km49_a) (sp := km49_s) (rk := 3) 11 h (fun _ _ _ _ _ _ => trivial) (fun _ _ _ _ _ _ => trivial) (ht_tys cy) (by decide) rfl ⟨fx_an, fx_an, fx_an, fx_an, fx_an, fx_an⟩ d_X12_isIn km49_k
-- X12_isIn i i i (-2147483648, 2147483647) (0, 0) (12, 12)
def km50_c : fx_C := ([.inl (-2147483648, 2147483647), .inl (0, 0), .inl (12, 12)], [], [(some (.inl (1, 1)), [.inl (0, 12), .inl (0, 0), .inl (12, 12)], []), (some (.inl (0, 0)), [.inl (-2147483648, 2147483647), .inl (0, 0), .inl (12, 12)], [])], [])
def km50_a : List fx_N := []
def km50_s : List fx_D := []
def km50_x : fx_X := ([], [], [], [], [], [])
set_option maxRecDepth 100000 in
theorem km50_k : fx_chk TM 3 km50_c 3 km50_x t_X12_isIn km50_a km50_s 11 = true := by decide +kernel
set_option maxRecDepth 100000 in
theorem km50 {l : Launch} {E : (Nat → Prop) → State → Prop} {ad : List Nat} {D : va_G} {cy : Nat → ClassId} (h : fx_env E D classes (tys cy) nestW) : fx_Met l yX12_isIn (.code yX12_isIn cX12_isIn 3 (some .boolean) :: wsL_law) ({ frames := 0, cells := 0, slots := 0, locals := 0 }) E (gsM, TM, cy, fun _ => True) ad D classes km50_c :=
  fx_sound (x := km50_x) (tb := t_X12_isIn) (an := km50_a) (sp := km50_s) (rk := 3) 11 h (fun _ _ _ _ _ _ => trivial) (fun _ _ _ _ _ _ => trivial) (ht_tys cy) (by decide) rfl ⟨fx_an, fx_an, fx_an, fx_an, fx_an, fx_an⟩ d_X12_isIn km50_k
-- X12_put 0 i i
def km51_c : fx_C := ([.inr (.inr 1), .inl (-2147483648, 2147483647), .inl (-2147483648, 2147483647)], [], [(some (.inl (-1, -1)), [.inr (.inr 1), .inl (-2147483648, 2147483647), .inl (-2147483648, 2147483647)], []), (some (.inl (1, 12)), [.inr (.inr 1), .inl (0, 11), .inl (0, 8)], [((0, 49), .inl (1, 40)), ((0, 50), .inl (0, 0)), ((0, 41), .inr (.inr 43)), ((5, 12), .inl (1, 12))])], [(12, 49), (12, 50), (1000, 42), (1000, 49)])
def km51_a : List fx_N := [(0, [(0, .inr (.inr 1)), (1, .inl (-2147483648, 2147483647)), (2, .inl (-2147483648, 2147483647))], [((0, 41), .inr (.inr 43)), ((3, 12), .inl (0, 0))], [(0, 1), (0, 0), (0, 0)], [(0, 0), (1, 1), (2, 2)]), (0, [(0, .inr (.inr 1)), (1, .inl (-2147483648, 2147483647)), (2, .inl (-2147483648, 2147483647))], [((0, 41), .inr (.inr 43)), ((3, 12), .inl (1, 1))], [(0, 2), (0, 0), (0, 0)], [(0, 0), (1, 1), (2, 2)]), (0, [(0, .inr (.inr 1)), (1, .inl (-2147483648, 2147483647)), (2, .inl (-2147483648, 2147483647))], [((0, 41), .inr (.inr 43)), ((3, 12), .inl (2, 2))], [(0, 3), (0, 0), (0, 0)], [(0, 0), (1, 1), (2, 2)]), (0, [(0, .inr (.inr 1)), (1, .inl (-2147483648, 2147483647)), (2, .inl (-2147483648, 2147483647))], [((0, 41), .inr (.inr 43)), ((3, 12), .inl (3, 3))], [(0, 4), (0, 0), (0, 0)], [(0, 0), (1, 1), (2, 2)]), (0, [(0, .inr (.inr 1)), (1, .inl (-2147483648, 2147483647)), (2, .inl (-2147483648, 2147483647))], [((0, 41), .inr (.inr 43)), ((3, 12), .inl (4, 4))], [(0, 5), (0, 0), (0, 0)], [(0, 0), (1, 1), (2, 2)]), (0, [(0, .inr (.inr 1)), (1, .inl (-2147483648, 2147483647)), (2, .inl (-2147483648, 2147483647))], [((0, 41), .inr (.inr 43)), ((3, 12), .inl (5, 5))], [(0, 6), (0, 0), (0, 0)], [(0, 0), (1, 1), (2, 2)]), (0, [(0, .inr (.inr 1)), (1, .inl (-2147483648, 2147483647)), (2, .inl (-2147483648, 2147483647))], [((0, 41), .inr (.inr 43)), ((3, 12), .inl (6, 6))], [(0, 7), (0, 0), (0, 0)], [(0, 0), (1, 1), (2, 2)]), (0, [(0, .inr (.inr 1)), (1, .inl (-2147483648, 2147483647)), (2, .inl (-2147483648, 2147483647))], [((0, 41), .inr (.inr 43)), ((3, 12), .inl (7, 7))], [(0, 8), (0, 0), (0, 0)], [(0, 0), (1, 1), (2, 2)]), (0, [(0, .inr (.inr 1)), (1, .inl (-2147483648, 2147483647)), (2, .inl (-2147483648, 2147483647))], [((0, 41), .inr (.inr 43)), ((3, 12), .inl (8, 8))], [(0, 9), (0, 0), (0, 0)], [(0, 0), (1, 1), (2, 2)]), (0, [(0, .inr (.inr 1)), (1, .inl (-2147483648, 2147483647)), (2, .inl (-2147483648, 2147483647))], [((0, 41), .inr (.inr 43)), ((3, 12), .inl (9, 9))], [(0, 10), (0, 0), (0, 0)], [(0, 0), (1, 1), (2, 2)]), (0, [(0, .inr (.inr 1)), (1, .inl (-2147483648, 2147483647)), (2, .inl (-2147483648, 2147483647))], [((0, 41), .inr (.inr 43)), ((3, 12), .inl (10, 10))], [(0, 11), (0, 0), (0, 0)], [(0, 0), (1, 1), (2, 2)]), (0, [(0, .inr (.inr 1)), (1, .inl (-2147483648, 2147483647)), (2, .inl (-2147483648, 2147483647))], [((0, 41), .inr (.inr 43)), ((3, 12), .inl (11, 11))], [(0, 12), (0, 0), (0, 0)], [(0, 0), (1, 1), (2, 2)]), (0, [(0, .inr (.inr 1)), (1, .inl (-2147483648, 2147483647)), (2, .inl (-2147483648, 2147483647))], [((0, 41), .inr (.inr 43)), ((3, 12), .inl (12, 12))], [(0, 13), (0, 0), (0, 0)], [(0, 0), (1, 1), (2, 2)]), (49, [(0, .inr (.inr 1)), (1, .inl (0, 11)), (2, .inl (0, 8)), (3, .inl (0, 11))], [((0, 49), .inl (1, 40)), ((0, 50), .inl (0, 0)), ((0, 41), .inr (.inr 43)), ((6, 12), .inl (0, 11))], [(0, 0), (2, 3), (0, 0)], [(0, 0), (1, 1), (2, 2)])]
def km51_s : List fx_D := [(0, [(0, .inr (.inr 1))], [((0, 41), .inr (.inr 43)), ((1, 12), .inl (0, 12))], 2)]
def km51_x : fx_X := ([], [(92, 12, 41)], [], [], [], [(9, 359, 1000, km39_c), (9, 359, 1000, km28_c), (9, 359, 1000, km40_c), (9, 359, 1000, km41_c), (9, 359, 1000, km42_c), (9, 359, 1000, km43_c), (9, 359, 1000, km44_c), (9, 359, 1000, km45_c), (9, 359, 1000, km46_c), (9, 359, 1000, km47_c), (9, 359, 1000, km48_c), (9, 359, 1000, km49_c), (9, 359, 1000, km50_c), (17, 399, 12, km16_c), (38, 422, 12, km33_c)])
set_option maxRecDepth 100000 in
theorem km51_k : fx_chk TM 4 km51_c 0 km51_x t_X12_put km51_a km51_s 28 = true := by decide +kernel
set_option maxRecDepth 100000 in
theorem km51 {l : Launch} {E : (Nat → Prop) → State → Prop} {ad : List Nat} {D : va_G} {cy : Nat → ClassId} (h : fx_env E D classes (tys cy) nestW) : fx_Met l yX12_put (.code yX12_put cX12_put 4 (some .int) :: wsL_law) ({ frames := 2, cells := 0, slots := 0, locals := 43 }) E (gsM, TM, cy, fun _ => True) ad D classes km51_c :=
  fx_sound (x := km51_x) (tb := t_X12_put) (an := km51_a) (sp := km51_s) (rk := 0) 28 h (fun _ _ _ _ _ _ => trivial) (fun _ _ _ _ _ _ => trivial) (ht_tys cy) (by decide) rfl ⟨fx_an, (fx_ac fl_X12_92 (fx_an)), fx_an, fx_an, fx_an, (fx_ac (ev_S (km39 h) ⟨by decide, by decide⟩ iS_X12_isIn g_X12_359) (fx_ac (ev_S (km28 h) ⟨by decide, by decide⟩ iS_X12_isIn g_X12_359) (fx_ac (ev_S (km40 h) ⟨by decide, by decide⟩ iS_X12_isIn g_X12_359) (fx_ac (ev_S (km41 h) ⟨by decide, by decide⟩ iS_X12_isIn g_X12_359) (fx_ac (ev_S (km42 h) ⟨by decide, by decide⟩ iS_X12_isIn g_X12_359) (fx_ac (ev_S (km43 h) ⟨by decide, by decide⟩ iS_X12_isIn g_X12_359) (fx_ac (ev_S (km44 h) ⟨by decide, by decide⟩ iS_X12_isIn g_X12_359) (fx_ac (ev_S (km45 h) ⟨by decide, by decide⟩ iS_X12_isIn g_X12_359) (fx_ac (ev_S (km46 h) ⟨by decide, by decide⟩ iS_X12_isIn g_X12_359) (fx_ac (ev_S (km47 h) ⟨by decide, by decide⟩ iS_X12_isIn g_X12_359) (fx_ac (ev_S (km48 h) ⟨by decide, by decide⟩ iS_X12_isIn g_X12_359) (fx_ac (ev_S (km49 h) ⟨by decide, by decide⟩ iS_X12_isIn g_X12_359) (fx_ac (ev_S (km50 h) ⟨by decide, by decide⟩ iS_X12_isIn g_X12_359) (fx_ac (ev_V (km16 h) (by decide) rfl ⟨by decide, by decide⟩ iV_X12_isSaying g_X12_399) (fx_ac (ev_V (km33 h) (by decide) rfl ⟨by decide, by decide⟩ iV_X12_keepAct g_X12_422) (fx_an))))))))))))))))⟩ d_X12_put km51_k
-- X12_change 0 i i
def km52_c : fx_C := ([.inr (.inr 1), .inl (-2147483648, 2147483647), .inl (-2147483648, 2147483647)], [], [(some (.inl (-1, -1)), [.inr (.inr 1), .inl (-2147483648, 2147483647), .inl (-2147483648, 2147483647)], []), (some (.inl (0, 8)), [.inr (.inr 1), .inl (0, 11), .inl (0, 8)], [((0, 49), .inl (1, 40)), ((0, 50), .inl (0, 0)), ((0, 41), .inr (.inr 43)), ((5, 12), .inl (1, 12))])], [(12, 49), (12, 50), (1000, 42), (1000, 49)])
def km52_a : List fx_N := []
def km52_s : List fx_D := []
def km52_x : fx_X := ([], [(92, 12, 41)], [], [], [], [(2, 393, 12, km4_c), (10, 399, 12, km16_c), (31, 422, 12, km33_c)])
set_option maxRecDepth 100000 in
theorem km52_k : fx_chk TM 4 km52_c 0 km52_x t_X12_change km52_a km52_s 36 = true := by decide +kernel
set_option maxRecDepth 100000 in
theorem km52 {l : Launch} {E : (Nat → Prop) → State → Prop} {ad : List Nat} {D : va_G} {cy : Nat → ClassId} (h : fx_env E D classes (tys cy) nestW) : fx_Met l yX12_change (.code yX12_change cX12_change 4 (some .int) :: wsL_law) ({ frames := 2, cells := 0, slots := 0, locals := 43 }) E (gsM, TM, cy, fun _ => True) ad D classes km52_c :=
  fx_sound (x := km52_x) (tb := t_X12_change) (an := km52_a) (sp := km52_s) (rk := 0) 36 h (fun _ _ _ _ _ _ => trivial) (fun _ _ _ _ _ _ => trivial) (ht_tys cy) (by decide) rfl ⟨fx_an, (fx_ac fl_X12_92 (fx_an)), fx_an, fx_an, fx_an, (fx_ac (ev_V (km4 h) (by decide) rfl ⟨by decide, by decide⟩ iV_X12_isPlace g_X12_393) (fx_ac (ev_V (km16 h) (by decide) rfl ⟨by decide, by decide⟩ iV_X12_isSaying g_X12_399) (fx_ac (ev_V (km33 h) (by decide) rfl ⟨by decide, by decide⟩ iV_X12_keepAct g_X12_422) (fx_an))))⟩ d_X12_change km52_k
-- X12_layTwo 0 i -
def km53_c : fx_C := ([.inr (.inr 1), .inl (-1, -1)], [], [(none, [.inr (.inr 1), .inl (-1, -1)], [])], [(12, 46), (1000, 44)])
def km53_a : List fx_N := [(11, [(0, .inr (.inr 1)), (1, .inl (-1, -1)), (2, .inl (0, 12))], [], [(0, 0), (1, 2), (0, 0)], [(0, 0), (1, 1)])]
def km53_s : List fx_D := []
def km53_x : fx_X := ([], [(98, 12, 43), (390, 12, 46)], [(390, 12, 46, 0)], [], [], [(3, 381, 12, km13_c), (27, 387, 12, km20_c)])
set_option maxRecDepth 100000 in
theorem km53_k : fx_chk TM 3 km53_c 9 km53_x t_X12_layTwo km53_a km53_s 17 = true := by decide +kernel
set_option maxRecDepth 100000 in
theorem km53 {l : Launch} {E : (Nat → Prop) → State → Prop} {ad : List Nat} {D : va_G} {cy : Nat → ClassId} (h : fx_env E D classes (tys cy) nestW) : fx_Met l yX12_layTwo (.code yX12_layTwo cX12_layTwo 3 none :: wsL_law) ({ frames := 1, cells := 0, slots := 0, locals := 22 }) E (gsM, TM, cy, fun _ => True) ad D classes km53_c :=
  fx_sound (x := km53_x) (tb := t_X12_layTwo) (an := km53_a) (sp := km53_s) (rk := 9) 17 h (fun _ _ _ _ _ _ => trivial) (fun _ _ _ _ _ _ => trivial) (ht_tys cy) (by decide) rfl ⟨fx_an, (fx_ac fl_X12_98 (fx_ac fl_X12_390 (fx_an))), (fx_ac pl_X12_390 (fx_an)), fx_an, fx_an, (fx_ac (ev_V (km13 h) (by decide) rfl ⟨by decide, by decide⟩ iV_X12_longOf g_X12_381) (fx_ac (ev_V (km20 h) (by decide) rfl ⟨by decide, by decide⟩ iV_X12_wordOf g_X12_387) (fx_an)))⟩ d_X12_layTwo km53_k
-- X12_countWays 0
def km54_c : fx_C := ([.inr (.inr 1)], [], [(some (.inl (-2147483648, 2147483647)), [.inr (.inr 1)], [])], [(1000, 52)])
def km54_a : List fx_N := [(2, [(0, .inr (.inr 1)), (1, .inl (0, 13))], [], [(0, 1), (1, 1), (0, 0), (0, 0), (0, 0)], [(0, 0)]), (33, [(0, .inr (.inr 1)), (1, .inl (0, 12))], [], [(0, 0), (1, 1), (0, 1), (0, 0), (0, 0)], [(0, 0)]), (46, [(0, .inr (.inr 1)), (1, .inl (0, 11)), (2, .inl (0, 12))], [((0, 46), .inl (1, 12))], [(0, 0), (1, 1), (0, 0), (2, 2), (0, 0)], [(0, 0)])]
def km54_s : List fx_D := []
def km54_x : fx_X := ([], [(95, 12, 42), (98, 12, 43), (107, 12, 51), (384, 12, 45), (390, 12, 46)], [], [], [], [])
set_option maxRecDepth 100000 in
theorem km54_k : fx_chk TM 3 km54_c 0 km54_x t_X12_countWays km54_a km54_s 31 = true := by decide +kernel
set_option maxRecDepth 100000 in
theorem km54 {l : Launch} {E : (Nat → Prop) → State → Prop} {ad : List Nat} {D : va_G} {cy : Nat → ClassId} (h : fx_env E D classes (tys cy) nestW) : fx_Met l yX12_countWays (.code yX12_countWays cX12_countWays 3 (some .int) :: wsL_law) ({ frames := 0, cells := 0, slots := 0, locals := 0 }) E (gsM, TM, cy, fun _ => True) ad D classes km54_c :=
  fx_sound (x := km54_x) (tb := t_X12_countWays) (an := km54_a) (sp := km54_s) (rk := 0) 31 h (fun _ _ _ _ _ _ => trivial) (fun _ _ _ _ _ _ => trivial) (ht_tys cy) (by decide) rfl ⟨fx_an, (fx_ac fl_X12_95 (fx_ac fl_X12_98 (fx_ac fl_X12_107 (fx_ac fl_X12_384 (fx_ac fl_X12_390 (fx_an)))))), fx_an, fx_an, fx_an, fx_an⟩ d_X12_countWays km54_k
