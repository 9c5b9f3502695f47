-- X12_bringBack 0
def km101_c : fx_C := ([.inr (.inr 1)], [], [(none, [.inr (.inr 1)], [])], [(1000, 42)])
def km101_a : List fx_N := [(2, [(1, .inl (0, 0)), (0, .inr (.inr 1))], [], [(0, 15)], [(0, 1)]), (2, [(1, .inl (1, 1)), (0, .inr (.inr 1))], [], [(0, 14)], [(0, 1)]), (2, [(1, .inl (2, 2)), (0, .inr (.inr 1))], [], [(0, 13)], [(0, 1)]), (2, [(1, .inl (3, 3)), (0, .inr (.inr 1))], [], [(0, 12)], [(0, 1)]), (2, [(1, .inl (4, 4)), (0, .inr (.inr 1))], [], [(0, 11)], [(0, 1)]), (2, [(1, .inl (5, 5)), (0, .inr (.inr 1))], [], [(0, 10)], [(0, 1)]), (2, [(1, .inl (6, 6)), (0, .inr (.inr 1))], [], [(0, 9)], [(0, 1)]), (2, [(1, .inl (7, 7)), (0, .inr (.inr 1))], [], [(0, 8)], [(0, 1)]), (2, [(1, .inl (8, 8)), (0, .inr (.inr 1))], [], [(0, 7)], [(0, 1)]), (2, [(1, .inl (9, 9)), (0, .inr (.inr 1))], [], [(0, 6)], [(0, 1)]), (2, [(1, .inl (10, 10)), (0, .inr (.inr 1))], [], [(0, 5)], [(0, 1)]), (2, [(1, .inl (11, 11)), (0, .inr (.inr 1))], [], [(0, 4)], [(0, 1)]), (2, [(1, .inl (12, 12)), (0, .inr (.inr 1))], [], [(0, 3)], [(0, 1)]), (2, [(1, .inl (13, 13)), (0, .inr (.inr 1))], [], [(0, 2)], [(0, 1)]), (2, [(1, .inl (14, 14)), (0, .inr (.inr 1))], [], [(0, 1)], [(0, 1)]), (2, [(1, .inl (15, 15)), (0, .inr (.inr 1))], [], [(0, 0)], [(0, 1)])]
def km101_s : List fx_D := []
def km101_x : fx_X := ([], [(92, 12, 41), (128, 12, 60)], [], [], [], [])
set_option maxRecDepth 100000 in
theorem km101_k : fx_chk TM 2 km101_c 9 km101_x t_X12_bringBack km101_a km101_s 16 = true := by decide +kernel
set_option maxRecDepth 100000 in
theorem km101 {l : Launch} {E : (Nat → Prop) → State → Prop} {ad : List Nat} {D : va_G} {cy : Nat → ClassId} (h : fx_env E D classes (tys cy) nestW) : fx_Met l yX12_bringBack (.code yX12_bringBack cX12_bringBack 2 none :: wsL_law) ({ frames := 0, cells := 0, slots := 0, locals := 0 }) E (gsM, TM, cy, fun _ => True) ad D classes km101_c :=
  fx_sound (x := km101_x) (tb := t_X12_bringBack) (an := km101_a) (sp := km101_s) (rk := 9) 16 h (fun _ _ _ _ _ _ => trivial) (fun _ _ _ _ _ _ => trivial) (ht_tys cy) (by decide) rfl ⟨fx_an, (fx_ac fl_X12_92 (fx_ac fl_X12_128 (fx_an))), fx_an, fx_an, fx_an, fx_an⟩ d_X12_bringBack km101_k
-- X12_missedBy 0 i ('c', 1) +
def km102_c : fx_C := ([.inr (.inr 1), .inl (0, 1)], [((0, 41), .inr (.inr 43)), ((2, 12), .inl (1, 1))], [(some (.inl (0, 0)), [.inr (.inr 1), .inl (0, 1)], [])], [(12, 40), (1000, 34)])
def km102_a : List fx_N := [(7, [(2, .inl (-1, -1)), (0, .inr (.inr 1)), (1, .inl (0, 1)), (3, .inl (0, 0)), (4, .inl (0, 0))], [((1, 41), .inr (.inr 43)), ((5, 12), .inl (1, 1))], [(0, 1)], [(0, 1), (1, 2)]), (7, [(2, .inl (0, 0)), (0, .inr (.inr 1)), (1, .inl (0, 1)), (3, .inl (-2147483648, 2147483647)), (4, .inl (1, 1))], [((1, 41), .inr (.inr 43)), ((5, 12), .inl (1, 1))], [(0, 0)], [(0, 1), (1, 2)])]
def km102_s : List fx_D := []
def km102_x : fx_X := ([], [(92, 12, 41)], [], [], [], [(22, 410, 12, km26_c)])
set_option maxRecDepth 100000 in
theorem km102_k : fx_chk TM 6 km102_c 0 km102_x t_X12_missedBy km102_a km102_s 21 = true := by decide +kernel
set_option maxRecDepth 100000 in
theorem km102 {l : Launch} {E : (Nat → Prop) → State → Prop} {ad : List Nat} {D : va_G} {cy : Nat → ClassId} (h : fx_env E D classes (tys cy) nestW) : fx_Met l yX12_missedBy (.code yX12_missedBy cX12_missedBy 6 (some .int) :: wsL_law) ({ frames := 2, cells := 0, slots := 0, locals := 44 }) E (gsM, TM, cy, IM) ad D classes km102_c :=
  fx_sound (x := km102_x) (tb := t_X12_missedBy) (an := km102_a) (sp := km102_s) (rk := 0) 21 h (im_frA (by decide +kernel)) (im_frF (by decide +kernel)) (ht_tys cy) (by decide) rfl ⟨fx_an, (fx_ac fl_X12_92 (fx_an)), fx_an, fx_an, fx_an, (fx_ac (ev_V (km26 h) (by decide) rfl ⟨by decide, by decide⟩ iV_X12_missOf g_X12_410) (fx_an))⟩ d_X12_missedBy km102_k
-- X12_drop 0 i ('c', 1) +
def km103_c : fx_C := ([.inr (.inr 1), .inl (0, 0)], [((0, 41), .inr (.inr 43)), ((2, 12), .inl (1, 1))], [(none, [.inr (.inr 1), .inl (0, 0)], [((0, 41), .inr (.inr 43)), ((2, 0), .inl (0, 0)), ((2, 12), .inl (0, 0))])], [(1000, 42)])
def km103_a : List fx_N := [(2, [(0, .inr (.inr 1)), (1, .inl (0, 0)), (2, .inl (0, 0))], [((0, 41), .inr (.inr 43)), ((3, 12), .inl (1, 1))], [(0, 0)], [(0, 0), (1, 1)])]
def km103_s : List fx_D := []
def km103_x : fx_X := ([], [(92, 12, 41)], [], [], [], [])
set_option maxRecDepth 100000 in
theorem km103_k : fx_chk TM 3 km103_c 9 km103_x t_X12_drop km103_a km103_s 29 = true := by decide +kernel
set_option maxRecDepth 100000 in
theorem km103 {l : Launch} {E : (Nat → Prop) → State → Prop} {ad : List Nat} {D : va_G} {cy : Nat → ClassId} (h : fx_env E D classes (tys cy) nestW) : fx_Met l yX12_drop (.code yX12_drop cX12_drop 3 none :: wsL_law) ({ frames := 0, cells := 0, slots := 0, locals := 0 }) E (gsM, TM, cy, fun _ => True) ad D classes km103_c :=
  fx_sound (x := km103_x) (tb := t_X12_drop) (an := km103_a) (sp := km103_s) (rk := 9) 29 h (fun _ _ _ _ _ _ => trivial) (fun _ _ _ _ _ _ => trivial) (ht_tys cy) (by decide) rfl ⟨fx_an, (fx_ac fl_X12_92 (fx_an)), fx_an, fx_an, fx_an, fx_an⟩ d_X12_drop km103_k
theorem km103_i {l : Launch} {E : (Nat → Prop) → State → Prop} {ad : List Nat} {D : va_G} {cy : Nat → ClassId} (h : fx_env E D classes (tys cy) nestW) : fx_Met l yX12_drop (.code yX12_drop cX12_drop 3 none :: wsL_law) ({ frames := 0, cells := 0, slots := 0, locals := 0 }) E (gsM, TM, cy, IM) ad D classes km103_c := fx_lift (km103 h) (im_lift (by decide +kernel))
-- X12_goRound 0 i ('c', 1) +
def km104_c : fx_C := ([.inr (.inr 1), .inl (0, 2)], [((0, 41), .inr (.inr 43)), ((2, 12), .inl (1, 1))], [(some (.inl (0, 8)), [.inr (.inr 1), .inl (0, 2)], [((0, 41), .inr (.inr 43)), ((2, 0), .inl (0, 0)), ((2, 12), .inl (0, 0))])], [(12, 40), (1000, 34), (1000, 42)])
def km104_a : List fx_N := []
def km104_s : List fx_D := []
def km104_x : fx_X := ([], [(92, 12, 41)], [], [], [], [(8, 413, 12, km102_c), (72, 416, 12, km103_c)])
set_option maxRecDepth 100000 in
theorem km104_k : fx_chk TM 4 km104_c 0 km104_x t_X12_goRound km104_a km104_s 52 = true := by decide +kernel
set_option maxRecDepth 100000 in
theorem km104 {l : Launch} {E : (Nat → Prop) → State → Prop} {ad : List Nat} {D : va_G} {cy : Nat → ClassId} (h : fx_env E D classes (tys cy) nestW) : fx_Met l yX12_goRound (.code yX12_goRound cX12_goRound 4 (some .int) :: wsL_law) ({ frames := 3, cells := 0, slots := 0, locals := 69 }) E (gsM, TM, cy, IM) ad D classes km104_c :=
  fx_sound (x := km104_x) (tb := t_X12_goRound) (an := km104_a) (sp := km104_s) (rk := 0) 52 h (im_frA (by decide +kernel)) (im_frF (by decide +kernel)) (ht_tys cy) (by decide) rfl ⟨fx_an, (fx_ac fl_X12_92 (fx_an)), fx_an, fx_an, fx_an, (fx_ac (ev_V (km102 h) (by decide) rfl ⟨by decide, by decide⟩ iV_X12_missedBy g_X12_413) (fx_ac (ev_V (km103_i h) (by decide) rfl ⟨by decide, by decide⟩ iV_X12_drop g_X12_416) (fx_an)))⟩ d_X12_goRound km104_k
-- X12_missedBy 0 i ('c', 2) +
def km105_c : fx_C := ([.inr (.inr 1), .inl (0, 1)], [((0, 41), .inr (.inr 43)), ((2, 12), .inl (2, 2))], [(some (.inl (0, 0)), [.inr (.inr 1), .inl (0, 1)], []), (some (.inl (1, 1)), [.inr (.inr 1), .inl (0, 1)], [])], [(12, 40), (1000, 34)])
def km105_a : List fx_N := [(7, [(2, .inl (-1, -1)), (0, .inr (.inr 1)), (1, .inl (0, 1)), (3, .inl (0, 0)), (4, .inl (0, 0))], [((1, 41), .inr (.inr 43)), ((5, 12), .inl (2, 2))], [(0, 2), (0, 0), (0, 0)], [(0, 1), (1, 2)]), (7, [(2, .inl (0, 0)), (0, .inr (.inr 1)), (1, .inl (0, 1)), (3, .inl (-2147483648, 2147483647)), (4, .inl (1, 2))], [((1, 41), .inr (.inr 43)), ((5, 12), .inl (2, 2))], [(0, 1), (1, 4), (0, 0)], [(0, 1), (1, 2)]), (7, [(2, .inl (1, 1)), (0, .inr (.inr 1)), (1, .inl (0, 1)), (3, .inl (-2147483648, 2147483647)), (4, .inl (2, 2))], [((1, 41), .inr (.inr 43)), ((5, 12), .inl (2, 2))], [(0, 0), (0, 0), (0, 0)], [(0, 1), (1, 2)])]
def km105_s : List fx_D := []
def km105_x : fx_X := ([], [(92, 12, 41)], [], [], [], [(22, 410, 12, km26_c)])
set_option maxRecDepth 100000 in
theorem km105_k : fx_chk TM 6 km105_c 0 km105_x t_X12_missedBy km105_a km105_s 26 = true := by decide +kernel
set_option maxRecDepth 100000 in
theorem km105 {l : Launch} {E : (Nat → Prop) → State → Prop} {ad : List Nat} {D : va_G} {cy : Nat → ClassId} (h : fx_env E D classes (tys cy) nestW) : fx_Met l yX12_missedBy (.code yX12_missedBy cX12_missedBy 6 (some .int) :: wsL_law) ({ frames := 2, cells := 0, slots := 0, locals := 44 }) E (gsM, TM, cy, IM) ad D classes km105_c :=
  fx_sound (x := km105_x) (tb := t_X12_missedBy) (an := km105_a) (sp := km105_s) (rk := 0) 26 h (im_frA (by decide +kernel)) (im_frF (by decide +kernel)) (ht_tys cy) (by decide) rfl ⟨fx_an, (fx_ac fl_X12_92 (fx_an)), fx_an, fx_an, fx_an, (fx_ac (ev_V (km26 h) (by decide) rfl ⟨by decide, by decide⟩ iV_X12_missOf g_X12_410) (fx_an))⟩ d_X12_missedBy km105_k
-- X12_drop 0 i ('c', 2) +
def km106_c : fx_C := ([.inr (.inr 1), .inl (0, 1)], [((0, 41), .inr (.inr 43)), ((2, 12), .inl (2, 2))], [(none, [.inr (.inr 1), .inl (0, 1)], [((0, 41), .inr (.inr 43)), ((2, 1), .inl (0, 0)), ((2, 12), .inl (1, 1))])], [(1000, 42)])
def km106_a : List fx_N := [(2, [(0, .inr (.inr 1)), (1, .inl (0, 1)), (2, .inl (0, 1))], [((0, 41), .inr (.inr 43)), ((3, 12), .inl (2, 2))], [(0, 0), (1, 2), (0, 0)], [(0, 0), (1, 1)])]
def km106_s : List fx_D := []
def km106_x : fx_X := ([], [(92, 12, 41)], [], [], [], [])
set_option maxRecDepth 100000 in
theorem km106_k : fx_chk TM 3 km106_c 9 km106_x t_X12_drop km106_a km106_s 29 = true := by decide +kernel
set_option maxRecDepth 100000 in
theorem km106 {l : Launch} {E : (Nat → Prop) → State → Prop} {ad : List Nat} {D : va_G} {cy : Nat → ClassId} (h : fx_env E D classes (tys cy) nestW) : fx_Met l yX12_drop (.code yX12_drop cX12_drop 3 none :: wsL_law) ({ frames := 0, cells := 0, slots := 0, locals := 0 }) E (gsM, TM, cy, fun _ => True) ad D classes km106_c :=
  fx_sound (x := km106_x) (tb := t_X12_drop) (an := km106_a) (sp := km106_s) (rk := 9) 29 h (fun _ _ _ _ _ _ => trivial) (fun _ _ _ _ _ _ => trivial) (ht_tys cy) (by decide) rfl ⟨fx_an, (fx_ac fl_X12_92 (fx_an)), fx_an, fx_an, fx_an, fx_an⟩ d_X12_drop km106_k
theorem km106_i {l : Launch} {E : (Nat → Prop) → State → Prop} {ad : List Nat} {D : va_G} {cy : Nat → ClassId} (h : fx_env E D classes (tys cy) nestW) : fx_Met l yX12_drop (.code yX12_drop cX12_drop 3 none :: wsL_law) ({ frames := 0, cells := 0, slots := 0, locals := 0 }) E (gsM, TM, cy, IM) ad D classes km106_c := fx_lift (km106 h) (im_lift (by decide +kernel))
-- X12_goRound 0 i ('c', 2) +
def km107_c : fx_C := ([.inr (.inr 1), .inl (0, 2)], [((0, 41), .inr (.inr 43)), ((2, 12), .inl (2, 2))], [(some (.inl (0, 8)), [.inr (.inr 1), .inl (0, 2)], [((0, 41), .inr (.inr 43)), ((2, 1), .inl (0, 0)), ((2, 12), .inl (1, 1))])], [(12, 40), (1000, 34), (1000, 42)])
def km107_a : List fx_N := []
def km107_s : List fx_D := []
def km107_x : fx_X := ([], [(92, 12, 41)], [], [], [], [(8, 413, 12, km105_c), (72, 416, 12, km106_c)])
set_option maxRecDepth 100000 in
theorem km107_k : fx_chk TM 4 km107_c 0 km107_x t_X12_goRound km107_a km107_s 52 = true := by decide +kernel
set_option maxRecDepth 100000 in
theorem km107 {l : Launch} {E : (Nat → Prop) → State → Prop} {ad : List Nat} {D : va_G} {cy : Nat → ClassId} (h : fx_env E D classes (tys cy) nestW) : fx_Met l yX12_goRound (.code yX12_goRound cX12_goRound 4 (some .int) :: wsL_law) ({ frames := 3, cells := 0, slots := 0, locals := 69 }) E (gsM, TM, cy, IM) ad D classes km107_c :=
  fx_sound (x := km107_x) (tb := t_X12_goRound) (an := km107_a) (sp := km107_s) (rk := 0) 52 h (im_frA (by decide +kernel)) (im_frF (by decide +kernel)) (ht_tys cy) (by decide) rfl ⟨fx_an, (fx_ac fl_X12_92 (fx_an)), fx_an, fx_an, fx_an, (fx_ac (ev_V (km105 h) (by decide) rfl ⟨by decide, by decide⟩ iV_X12_missedBy g_X12_413) (fx_ac (ev_V (km106_i h) (by decide) rfl ⟨by decide, by decide⟩ iV_X12_drop g_X12_416) (fx_an)))⟩ d_X12_goRound km107_k
-- X12_missedBy 0 i ('c', 3) +
def km108_c : fx_C := ([.inr (.inr 1), .inl (0, 1)], [((0, 41), .inr (.inr 43)), ((2, 12), .inl (3, 3))], [(some (.inl (0, 0)), [.inr (.inr 1), .inl (0, 1)], []), (some (.inl (1, 1)), [.inr (.inr 1), .inl (0, 1)], []), (some (.inl (1, 2)), [.inr (.inr 1), .inl (0, 1)], []), (some (.inl (2, 2)), [.inr (.inr 1), .inl (0, 1)], [])], [(12, 40), (1000, 34)])
def km108_a : List fx_N := [(7, [(2, .inl (-1, -1)), (0, .inr (.inr 1)), (1, .inl (0, 1)), (3, .inl (0, 0)), (4, .inl (0, 0))], [((1, 41), .inr (.inr 43)), ((5, 12), .inl (3, 3))], [(0, 3), (0, 0), (0, 0)], [(0, 1), (1, 2)]), (7, [(2, .inl (0, 0)), (0, .inr (.inr 1)), (1, .inl (0, 1)), (3, .inl (-2147483648, 2147483647)), (4, .inl (1, 3))], [((1, 41), .inr (.inr 43)), ((5, 12), .inl (3, 3))], [(0, 2), (1, 4), (0, 0)], [(0, 1), (1, 2)]), (7, [(2, .inl (1, 1)), (0, .inr (.inr 1)), (1, .inl (0, 1)), (3, .inl (-2147483648, 2147483647)), (4, .inl (2, 3))], [((1, 41), .inr (.inr 43)), ((5, 12), .inl (3, 3))], [(0, 4), (1, 4), (0, 0)], [(0, 1), (1, 2)]), (7, [(2, .inl (1, 2)), (0, .inr (.inr 1)), (1, .inl (0, 1)), (3, .inl (-2147483648, 2147483647)), (4, .inl (2, 3))], [((1, 41), .inr (.inr 43)), ((5, 12), .inl (3, 3))], [(0, 1), (1, 4), (0, 0)], [(0, 1), (1, 2)]), (7, [(2, .inl (2, 2)), (0, .inr (.inr 1)), (1, .inl (0, 1)), (3, .inl (-2147483648, 2147483647)), (4, .inl (3, 3))], [((1, 41), .inr (.inr 43)), ((5, 12), .inl (3, 3))], [(0, 0), (0, 0), (0, 0)], [(0, 1), (1, 2)])]
def km108_s : List fx_D := []
def km108_x : fx_X := ([], [(92, 12, 41)], [], [], [], [(22, 410, 12, km26_c)])
set_option maxRecDepth 100000 in
theorem km108_k : fx_chk TM 6 km108_c 0 km108_x t_X12_missedBy km108_a km108_s 26 = true := by decide +kernel
set_option maxRecDepth 100000 in
theorem km108 {l : Launch} {E : (Nat → Prop) → State → Prop} {ad : List Nat} {D : va_G} {cy : Nat → ClassId} (h : fx_env E D classes (tys cy) nestW) : fx_Met l yX12_missedBy (.code yX12_missedBy cX12_missedBy 6 (some .int) :: wsL_law) ({ frames := 2, cells := 0, slots := 0, locals := 44 }) E (gsM, TM, cy, IM) ad D classes km108_c :=
  fx_sound (x := km108_x) (tb := t_X12_missedBy) (an := km108_a) (sp := km108_s) (rk := 0) 26 h (im_frA (by decide +kernel)) (im_frF (by decide +kernel)) (ht_tys cy) (by decide) rfl ⟨fx_an, (fx_ac fl_X12_92 (fx_an)), fx_an, fx_an, fx_an, (fx_ac (ev_V (km26 h) (by decide) rfl ⟨by decide, by decide⟩ iV_X12_missOf g_X12_410) (fx_an))⟩ d_X12_missedBy km108_k
-- X12_drop 0 i ('c', 3) +
def km109_c : fx_C := ([.inr (.inr 1), .inl (0, 2)], [((0, 41), .inr (.inr 43)), ((2, 12), .inl (3, 3))], [(none, [.inr (.inr 1), .inl (0, 2)], [((0, 41), .inr (.inr 43)), ((2, 2), .inl (0, 0)), ((2, 12), .inl (2, 2))])], [(1000, 42)])
def km109_a : List fx_N := [(2, [(0, .inr (.inr 1)), (1, .inl (0, 2)), (2, .inl (0, 2))], [((0, 41), .inr (.inr 43)), ((3, 12), .inl (3, 3))], [(0, 0), (1, 2), (0, 0)], [(0, 0), (1, 1)])]
def km109_s : List fx_D := []
def km109_x : fx_X := ([], [(92, 12, 41)], [], [], [], [])
set_option maxRecDepth 100000 in
theorem km109_k : fx_chk TM 3 km109_c 9 km109_x t_X12_drop km109_a km109_s 29 = true := by decide +kernel
set_option maxRecDepth 100000 in
theorem km109 {l : Launch} {E : (Nat → Prop) → State → Prop} {ad : List Nat} {D : va_G} {cy : Nat → ClassId} (h : fx_env E D classes (tys cy) nestW) : fx_Met l yX12_drop (.code yX12_drop cX12_drop 3 none :: wsL_law) ({ frames := 0, cells := 0, slots := 0, locals := 0 }) E (gsM, TM, cy, fun _ => True) ad D classes km109_c :=
  fx_sound (x := km109_x) (tb := t_X12_drop) (an := km109_a) (sp := km109_s) (rk := 9) 29 h (fun _ _ _ _ _ _ => trivial) (fun _ _ _ _ _ _ => trivial) (ht_tys cy) (by decide) rfl ⟨fx_an, (fx_ac fl_X12_92 (fx_an)), fx_an, fx_an, fx_an, fx_an⟩ d_X12_drop km109_k
theorem km109_i {l : Launch} {E : (Nat → Prop) → State → Prop} {ad : List Nat} {D : va_G} {cy : Nat → ClassId} (h : fx_env E D classes (tys cy) nestW) : fx_Met l yX12_drop (.code yX12_drop cX12_drop 3 none :: wsL_law) ({ frames := 0, cells := 0, slots := 0, locals := 0 }) E (gsM, TM, cy, IM) ad D classes km109_c := fx_lift (km109 h) (im_lift (by decide +kernel))
-- X12_goRound 0 i ('c', 3) +
def km110_c : fx_C := ([.inr (.inr 1), .inl (0, 2)], [((0, 41), .inr (.inr 43)), ((2, 12), .inl (3, 3))], [(some (.inl (0, 8)), [.inr (.inr 1), .inl (0, 2)], [((0, 41), .inr (.inr 43)), ((2, 2), .inl (0, 0)), ((2, 12), .inl (2, 2))])], [(12, 40), (1000, 34), (1000, 42)])
def km110_a : List fx_N := []
def km110_s : List fx_D := []
def km110_x : fx_X := ([], [(92, 12, 41)], [], [], [], [(8, 413, 12, km108_c), (72, 416, 12, km109_c)])
set_option maxRecDepth 100000 in
theorem km110_k : fx_chk TM 4 km110_c 0 km110_x t_X12_goRound km110_a km110_s 52 = true := by decide +kernel
set_option maxRecDepth 100000 in
theorem km110 {l : Launch} {E : (Nat → Prop) → State → Prop} {ad : List Nat} {D : va_G} {cy : Nat → ClassId} (h : fx_env E D classes (tys cy) nestW) : fx_Met l yX12_goRound (.code yX12_goRound cX12_goRound 4 (some .int) :: wsL_law) ({ frames := 3, cells := 0, slots := 0, locals := 69 }) E (gsM, TM, cy, IM) ad D classes km110_c :=
  fx_sound (x := km110_x) (tb := t_X12_goRound) (an := km110_a) (sp := km110_s) (rk := 0) 52 h (im_frA (by decide +kernel)) (im_frF (by decide +kernel)) (ht_tys cy) (by decide) rfl ⟨fx_an, (fx_ac fl_X12_92 (fx_an)), fx_an, fx_an, fx_an, (fx_ac (ev_V (km108 h) (by decide) rfl ⟨by decide, by decide⟩ iV_X12_missedBy g_X12_413) (fx_ac (ev_V (km109_i h) (by decide) rfl ⟨by decide, by decide⟩ iV_X12_drop g_X12_416) (fx_an)))⟩ d_X12_goRound km110_k
-- X12_missedBy 0 i ('c', 4) +
def km111_c : fx_C := ([.inr (.inr 1), .inl (0, 1)], [((0, 41), .inr (.inr 43)), ((2, 12), .inl (4, 4))], [(some (.inl (0, 0)), [.inr (.inr 1), .inl (0, 1)], []), (some (.inl (1, 1)), [.inr (.inr 1), .inl (0, 1)], []), (some (.inl (1, 3)), [.inr (.inr 1), .inl (0, 1)], []), (some (.inl (2, 2)), [.inr (.inr 1), .inl (0, 1)], []), (some (.inl (3, 3)), [.inr (.inr 1), .inl (0, 1)], [])], [(12, 40), (1000, 34)])
def km111_a : List fx_N := [(7, [(2, .inl (-1, -1)), (0, .inr (.inr 1)), (1, .inl (0, 1)), (3, .inl (0, 0)), (4, .inl (0, 0))], [((1, 41), .inr (.inr 43)), ((5, 12), .inl (4, 4))], [(0, 2), (0, 0), (0, 0)], [(0, 1), (1, 2)]), (7, [(2, .inl (0, 0)), (0, .inr (.inr 1)), (1, .inl (0, 1)), (3, .inl (-2147483648, 2147483647)), (4, .inl (1, 4))], [((1, 41), .inr (.inr 43)), ((5, 12), .inl (4, 4))], [(0, 1), (1, 4), (0, 0)], [(0, 1), (1, 2)]), (7, [(2, .inl (1, 1)), (0, .inr (.inr 1)), (1, .inl (0, 1)), (3, .inl (-2147483648, 2147483647)), (4, .inl (2, 4))], [((1, 41), .inr (.inr 43)), ((5, 12), .inl (4, 4))], [(0, 3), (1, 4), (0, 0)], [(0, 1), (1, 2)]), (7, [(2, .inl (1, 3)), (0, .inr (.inr 1)), (1, .inl (0, 1)), (3, .inl (-2147483648, 2147483647)), (4, .inl (2, 4))], [((1, 41), .inr (.inr 43)), ((5, 12), .inl (4, 4))], [(0, 0), (1, 4), (0, 0)], [(0, 1), (1, 2)]), (7, [(2, .inl (2, 2)), (0, .inr (.inr 1)), (1, .inl (0, 1)), (3, .inl (-2147483648, 2147483647)), (4, .inl (3, 4))], [((1, 41), .inr (.inr 43)), ((5, 12), .inl (4, 4))], [(0, 5), (1, 4), (0, 0)], [(0, 1), (1, 2)]), (7, [(2, .inl (3, 3)), (0, .inr (.inr 1)), (1, .inl (0, 1)), (3, .inl (-2147483648, 2147483647)), (4, .inl (4, 4))], [((1, 41), .inr (.inr 43)), ((5, 12), .inl (4, 4))], [(0, 4), (0, 0), (0, 0)], [(0, 1), (1, 2)])]
def km111_s : List fx_D := []
def km111_x : fx_X := ([], [(92, 12, 41)], [], [], [], [(22, 410, 12, km26_c)])
set_option maxRecDepth 100000 in
theorem km111_k : fx_chk TM 6 km111_c 0 km111_x t_X12_missedBy km111_a km111_s 26 = true := by decide +kernel
set_option maxRecDepth 100000 in
theorem km111 {l : Launch} {E : (Nat → Prop) → State → Prop} {ad : List Nat} {D : va_G} {cy : Nat → ClassId} (h : fx_env E D classes (tys cy) nestW) : fx_Met l yX12_missedBy (.code yX12_missedBy cX12_missedBy 6 (some .int) :: wsL_law) ({ frames := 2, cells := 0, slots := 0, locals := 44 }) E (gsM, TM, cy, IM) ad D classes km111_c :=
  fx_sound (x := km111_x) (tb := t_X12_missedBy) (an := km111_a) (sp := km111_s) (rk := 0) 26 h (im_frA (by decide +kernel)) (im_frF (by decide +kernel)) (ht_tys cy) (by decide) rfl ⟨fx_an, (fx_ac fl_X12_92 (fx_an)), fx_an, fx_an, fx_an, (fx_ac (ev_V (km26 h) (by decide) rfl ⟨by decide, by decide⟩ iV_X12_missOf g_X12_410) (fx_an))⟩ d_X12_missedBy km111_k
-- X12_drop 0 i ('c', 4) +
def km112_c : fx_C := ([.inr (.inr 1), .inl (0, 3)], [((0, 41), .inr (.inr 43)), ((2, 12), .inl (4, 4))], [(none, [.inr (.inr 1), .inl (0, 3)], [((0, 41), .inr (.inr 43)), ((2, 3), .inl (0, 0)), ((2, 12), .inl (3, 3))])], [(1000, 42)])
def km112_a : List fx_N := [(2, [(0, .inr (.inr 1)), (1, .inl (0, 3)), (2, .inl (0, 3))], [((0, 41), .inr (.inr 43)), ((3, 12), .inl (4, 4))], [(0, 0), (1, 2), (0, 0)], [(0, 0), (1, 1)])]
def km112_s : List fx_D := []
def km112_x : fx_X := ([], [(92, 12, 41)], [], [], [], [])
set_option maxRecDepth 100000 in
theorem km112_k : fx_chk TM 3 km112_c 9 km112_x t_X12_drop km112_a km112_s 29 = true := by decide +kernel
set_option maxRecDepth 100000 in
theorem km112 {l : Launch} {E : (Nat → Prop) → State → Prop} {ad : List Nat} {D : va_G} {cy : Nat → ClassId} (h : fx_env E D classes (tys cy) nestW) : fx_Met l yX12_drop (.code yX12_drop cX12_drop 3 none :: wsL_law) ({ frames := 0, cells := 0, slots := 0, locals := 0 }) E (gsM, TM, cy, fun _ => True) ad D classes km112_c :=
  fx_sound (x := km112_x) (tb := t_X12_drop) (an := km112_a) (sp := km112_s) (rk := 9) 29 h (fun _ _ _ _ _ _ => trivial) (fun _ _ _ _ _ _ => trivial) (ht_tys cy) (by decide) rfl ⟨fx_an, (fx_ac fl_X12_92 (fx_an)), fx_an, fx_an, fx_an, fx_an⟩ d_X12_drop km112_k
theorem km112_i {l : Launch} {E : (Nat → Prop) → State → Prop} {ad : List Nat} {D : va_G} {cy : Nat → ClassId} (h : fx_env E D classes (tys cy) nestW) : fx_Met l yX12_drop (.code yX12_drop cX12_drop 3 none :: wsL_law) ({ frames := 0, cells := 0, slots := 0, locals := 0 }) E (gsM, TM, cy, IM) ad D classes km112_c := fx_lift (km112 h) (im_lift (by decide +kernel))
-- X12_goRound 0 i ('c', 4) +
def km113_c : fx_C := ([.inr (.inr 1), .inl (0, 2)], [((0, 41), .inr (.inr 43)), ((2, 12), .inl (4, 4))], [(some (.inl (0, 8)), [.inr (.inr 1), .inl (0, 2)], [((0, 41), .inr (.inr 43)), ((2, 3), .inl (0, 0)), ((2, 12), .inl (3, 3))])], [(12, 40), (1000, 34), (1000, 42)])
def km113_a : List fx_N := []
def km113_s : List fx_D := []
def km113_x : fx_X := ([], [(92, 12, 41)], [], [], [], [(8, 413, 12, km111_c), (72, 416, 12, km112_c)])
set_option maxRecDepth 100000 in
theorem km113_k : fx_chk TM 4 km113_c 0 km113_x t_X12_goRound km113_a km113_s 52 = true := by decide +kernel
set_option maxRecDepth 100000 in
theorem km113 {l : Launch} {E : (Nat → Prop) → State → Prop} {ad : List Nat} {D : va_G} {cy : Nat → ClassId} (h : fx_env E D classes (tys cy) nestW) : fx_Met l yX12_goRound (.code yX12_goRound cX12_goRound 4 (some .int) :: wsL_law) ({ frames := 3, cells := 0, slots := 0, locals := 69 }) E (gsM, TM, cy, IM) ad D classes km113_c :=
  fx_sound (x := km113_x) (tb := t_X12_goRound) (an := km113_a) (sp := km113_s) (rk := 0) 52 h (im_frA (by decide +kernel)) (im_frF (by decide +kernel)) (ht_tys cy) (by decide) rfl ⟨fx_an, (fx_ac fl_X12_92 (fx_an)), fx_an, fx_an, fx_an, (fx_ac (ev_V (km111 h) (by decide) rfl ⟨by decide, by decide⟩ iV_X12_missedBy g_X12_413) (fx_ac (ev_V (km112_i h) (by decide) rfl ⟨by decide, by decide⟩ iV_X12_drop g_X12_416) (fx_an)))⟩ d_X12_goRound km113_k
