-- X12_missedBy 0 i ('c', 5) +
def km114_c : fx_C := ([.inr (.inr 1), .inl (0, 1)], [((0, 41), .inr (.inr 43)), ((2, 12), .inl (5, 5))], [(some (.inl (0, 0)), [.inr (.inr 1), .inl (0, 1)], []), (some (.inl (1, 1)), [.inr (.inr 1), .inl (0, 1)], []), (some (.inl (1, 4)), [.inr (.inr 1), .inl (0, 1)], []), (some (.inl (2, 2)), [.inr (.inr 1), .inl (0, 1)], []), (some (.inl (3, 3)), [.inr (.inr 1), .inl (0, 1)], []), (some (.inl (4, 4)), [.inr (.inr 1), .inl (0, 1)], [])], [(12, 40), (1000, 34)])
def km114_a : List fx_N := [(7, [(2, .inl (-1, -1)), (0, .inr (.inr 1)), (1, .inl (0, 1)), (3, .inl (0, 0)), (4, .inl (0, 0))], [((1, 41), .inr (.inr 43)), ((5, 12), .inl (5, 5))], [(0, 2), (0, 0), (0, 0)], [(0, 1), (1, 2)]), (7, [(2, .inl (0, 0)), (0, .inr (.inr 1)), (1, .inl (0, 1)), (3, .inl (-2147483648, 2147483647)), (4, .inl (1, 5))], [((1, 41), .inr (.inr 43)), ((5, 12), .inl (5, 5))], [(0, 1), (1, 4), (0, 0)], [(0, 1), (1, 2)]), (7, [(2, .inl (1, 1)), (0, .inr (.inr 1)), (1, .inl (0, 1)), (3, .inl (-2147483648, 2147483647)), (4, .inl (2, 5))], [((1, 41), .inr (.inr 43)), ((5, 12), .inl (5, 5))], [(0, 3), (1, 4), (0, 0)], [(0, 1), (1, 2)]), (7, [(2, .inl (1, 4)), (0, .inr (.inr 1)), (1, .inl (0, 1)), (3, .inl (-2147483648, 2147483647)), (4, .inl (2, 5))], [((1, 41), .inr (.inr 43)), ((5, 12), .inl (5, 5))], [(0, 0), (1, 4), (0, 0)], [(0, 1), (1, 2)]), (7, [(2, .inl (2, 2)), (0, .inr (.inr 1)), (1, .inl (0, 1)), (3, .inl (-2147483648, 2147483647)), (4, .inl (3, 5))], [((1, 41), .inr (.inr 43)), ((5, 12), .inl (5, 5))], [(0, 4), (1, 4), (0, 0)], [(0, 1), (1, 2)]), (7, [(2, .inl (3, 3)), (0, .inr (.inr 1)), (1, .inl (0, 1)), (3, .inl (-2147483648, 2147483647)), (4, .inl (4, 5))], [((1, 41), .inr (.inr 43)), ((5, 12), .inl (5, 5))], [(0, 6), (1, 4), (0, 0)], [(0, 1), (1, 2)]), (7, [(2, .inl (4, 4)), (0, .inr (.inr 1)), (1, .inl (0, 1)), (3, .inl (-2147483648, 2147483647)), (4, .inl (5, 5))], [((1, 41), .inr (.inr 43)), ((5, 12), .inl (5, 5))], [(0, 5), (0, 0), (0, 0)], [(0, 1), (1, 2)])]
def km114_s : List fx_D := []
def km114_x : fx_X := ([], [(92, 12, 41)], [], [], [], [(22, 410, 12, km26_c)])
set_option maxRecDepth 100000 in
theorem km114_k : fx_chk TM 6 km114_c 0 km114_x t_X12_missedBy km114_a km114_s 26 = true := by decide +kernel
set_option maxRecDepth 100000 in
theorem km114 {l : Launch} {E : (Nat → Prop) → State → Prop} {ad : List Nat} {D : va_G} {cy : Nat → ClassId} (h : fx_env E D classes (tys cy) nestW) : fx_Met l yX12_missedBy (.code yX12_missedBy cX12_missedBy 6 (some .int) :: wsL_law) ({ frames := 2, cells := 0, slots := 0, locals := 44 }) E (gsM, TM, cy, IM) ad D classes km114_c :=
  fx_sound (x := km114_x) (tb := t_X12_missedBy) (an := km114_a) (sp := km114_s) (rk := 0) 26 h (im_frA (by decide +kernel)) (im_frF (by decide +kernel)) (ht_tys cy) (by decide) rfl ⟨fx_an, (fx_ac fl_X12_92 (fx_an)), fx_an, fx_an, fx_an, (fx_ac (ev_V (km26 h) (by decide) rfl ⟨by decide, by decide⟩ iV_X12_missOf g_X12_410) (fx_an))⟩ d_X12_missedBy km114_k
-- X12_drop 0 i ('c', 5) +
def km115_c : fx_C := ([.inr (.inr 1), .inl (0, 4)], [((0, 41), .inr (.inr 43)), ((2, 12), .inl (5, 5))], [(none, [.inr (.inr 1), .inl (0, 4)], [((0, 41), .inr (.inr 43)), ((2, 4), .inl (0, 0)), ((2, 12), .inl (4, 4))])], [(1000, 42)])
def km115_a : List fx_N := [(2, [(0, .inr (.inr 1)), (1, .inl (0, 4)), (2, .inl (0, 4))], [((0, 41), .inr (.inr 43)), ((3, 12), .inl (5, 5))], [(0, 0), (1, 2), (0, 0)], [(0, 0), (1, 1)])]
def km115_s : List fx_D := []
def km115_x : fx_X := ([], [(92, 12, 41)], [], [], [], [])
set_option maxRecDepth 100000 in
theorem km115_k : fx_chk TM 3 km115_c 9 km115_x t_X12_drop km115_a km115_s 29 = true := by decide +kernel
set_option maxRecDepth 100000 in
theorem km115 {l : Launch} {E : (Nat → Prop) → State → Prop} {ad : List Nat} {D : va_G} {cy : Nat → ClassId} (h : fx_env E D classes (tys cy) nestW) : fx_Met l yX12_drop (.code yX12_drop cX12_drop 3 none :: wsL_law) ({ frames := 0, cells := 0, slots := 0, locals := 0 }) E (gsM, TM, cy, fun _ => True) ad D classes km115_c :=
  fx_sound (x := km115_x) (tb := t_X12_drop) (an := km115_a) (sp := km115_s) (rk := 9) 29 h (fun _ _ _ _ _ _ => trivial) (fun _ _ _ _ _ _ => trivial) (ht_tys cy) (by decide) rfl ⟨fx_an, (fx_ac fl_X12_92 (fx_an)), fx_an, fx_an, fx_an, fx_an⟩ d_X12_drop km115_k
theorem km115_i {l : Launch} {E : (Nat → Prop) → State → Prop} {ad : List Nat} {D : va_G} {cy : Nat → ClassId} (h : fx_env E D classes (tys cy) nestW) : fx_Met l yX12_drop (.code yX12_drop cX12_drop 3 none :: wsL_law) ({ frames := 0, cells := 0, slots := 0, locals := 0 }) E (gsM, TM, cy, IM) ad D classes km115_c := fx_lift (km115 h) (im_lift (by decide +kernel))
-- X12_goRound 0 i ('c', 5) +
def km116_c : fx_C := ([.inr (.inr 1), .inl (0, 2)], [((0, 41), .inr (.inr 43)), ((2, 12), .inl (5, 5))], [(some (.inl (0, 8)), [.inr (.inr 1), .inl (0, 2)], [((0, 41), .inr (.inr 43)), ((2, 4), .inl (0, 0)), ((2, 12), .inl (4, 4))])], [(12, 40), (1000, 34), (1000, 42)])
def km116_a : List fx_N := []
def km116_s : List fx_D := []
def km116_x : fx_X := ([], [(92, 12, 41)], [], [], [], [(8, 413, 12, km114_c), (72, 416, 12, km115_c)])
set_option maxRecDepth 100000 in
theorem km116_k : fx_chk TM 4 km116_c 0 km116_x t_X12_goRound km116_a km116_s 52 = true := by decide +kernel
set_option maxRecDepth 100000 in
theorem km116 {l : Launch} {E : (Nat → Prop) → State → Prop} {ad : List Nat} {D : va_G} {cy : Nat → ClassId} (h : fx_env E D classes (tys cy) nestW) : fx_Met l yX12_goRound (.code yX12_goRound cX12_goRound 4 (some .int) :: wsL_law) ({ frames := 3, cells := 0, slots := 0, locals := 69 }) E (gsM, TM, cy, IM) ad D classes km116_c :=
  fx_sound (x := km116_x) (tb := t_X12_goRound) (an := km116_a) (sp := km116_s) (rk := 0) 52 h (im_frA (by decide +kernel)) (im_frF (by decide +kernel)) (ht_tys cy) (by decide) rfl ⟨fx_an, (fx_ac fl_X12_92 (fx_an)), fx_an, fx_an, fx_an, (fx_ac (ev_V (km114 h) (by decide) rfl ⟨by decide, by decide⟩ iV_X12_missedBy g_X12_413) (fx_ac (ev_V (km115_i h) (by decide) rfl ⟨by decide, by decide⟩ iV_X12_drop g_X12_416) (fx_an)))⟩ d_X12_goRound km116_k
-- X12_missedBy 0 i ('c', 6) +
def km117_c : fx_C := ([.inr (.inr 1), .inl (0, 1)], [((0, 41), .inr (.inr 43)), ((2, 12), .inl (6, 6))], [(some (.inl (0, 5)), [.inr (.inr 1), .inl (0, 1)], [])], [(12, 40), (1000, 34)])
def km117_a : List fx_N := [(7, [(2, .inl (-1, -1)), (0, .inr (.inr 1)), (1, .inl (0, 1)), (3, .inl (0, 0)), (4, .inl (0, 0))], [((1, 41), .inr (.inr 43)), ((5, 12), .inl (6, 6))], [(0, 2), (0, 0), (0, 0)], [(0, 1), (1, 2)]), (7, [(2, .inl (0, 0)), (0, .inr (.inr 1)), (1, .inl (0, 1)), (3, .inl (-2147483648, 2147483647)), (4, .inl (1, 6))], [((1, 41), .inr (.inr 43)), ((5, 12), .inl (6, 6))], [(0, 1), (1, 4), (0, 0)], [(0, 1), (1, 2)]), (7, [(2, .inl (1, 1)), (0, .inr (.inr 1)), (1, .inl (0, 1)), (3, .inl (-2147483648, 2147483647)), (4, .inl (2, 6))], [((1, 41), .inr (.inr 43)), ((5, 12), .inl (6, 6))], [(0, 3), (1, 4), (0, 0)], [(0, 1), (1, 2)]), (7, [(2, .inl (1, 5)), (0, .inr (.inr 1)), (1, .inl (0, 1)), (3, .inl (-2147483648, 2147483647)), (4, .inl (2, 6))], [((1, 41), .inr (.inr 43)), ((5, 12), .inl (6, 6))], [(0, 0), (1, 4), (0, 0)], [(0, 1), (1, 2)]), (7, [(2, .inl (2, 2)), (0, .inr (.inr 1)), (1, .inl (0, 1)), (3, .inl (-2147483648, 2147483647)), (4, .inl (3, 6))], [((1, 41), .inr (.inr 43)), ((5, 12), .inl (6, 6))], [(0, 4), (1, 4), (0, 0)], [(0, 1), (1, 2)]), (7, [(2, .inl (3, 3)), (0, .inr (.inr 1)), (1, .inl (0, 1)), (3, .inl (-2147483648, 2147483647)), (4, .inl (4, 6))], [((1, 41), .inr (.inr 43)), ((5, 12), .inl (6, 6))], [(0, 5), (1, 4), (0, 0)], [(0, 1), (1, 2)]), (7, [(2, .inl (4, 4)), (0, .inr (.inr 1)), (1, .inl (0, 1)), (3, .inl (-2147483648, 2147483647)), (4, .inl (5, 6))], [((1, 41), .inr (.inr 43)), ((5, 12), .inl (6, 6))], [(0, 7), (1, 4), (0, 0)], [(0, 1), (1, 2)]), (7, [(2, .inl (5, 5)), (0, .inr (.inr 1)), (1, .inl (0, 1)), (3, .inl (-2147483648, 2147483647)), (4, .inl (6, 6))], [((1, 41), .inr (.inr 43)), ((5, 12), .inl (6, 6))], [(0, 6), (0, 0), (0, 0)], [(0, 1), (1, 2)])]
def km117_s : List fx_D := []
def km117_x : fx_X := ([], [(92, 12, 41)], [], [], [], [(22, 410, 12, km26_c)])
set_option maxRecDepth 100000 in
theorem km117_k : fx_chk TM 6 km117_c 0 km117_x t_X12_missedBy km117_a km117_s 26 = true := by decide +kernel
set_option maxRecDepth 100000 in
theorem km117 {l : Launch} {E : (Nat → Prop) → State → Prop} {ad : List Nat} {D : va_G} {cy : Nat → ClassId} (h : fx_env E D classes (tys cy) nestW) : fx_Met l yX12_missedBy (.code yX12_missedBy cX12_missedBy 6 (some .int) :: wsL_law) ({ frames := 2, cells := 0, slots := 0, locals := 44 }) E (gsM, TM, cy, IM) ad D classes km117_c :=
  fx_sound (x := km117_x) (tb := t_X12_missedBy) (an := km117_a) (sp := km117_s) (rk := 0) 26 h (im_frA (by decide +kernel)) (im_frF (by decide +kernel)) (ht_tys cy) (by decide) rfl ⟨fx_an, (fx_ac fl_X12_92 (fx_an)), fx_an, fx_an, fx_an, (fx_ac (ev_V (km26 h) (by decide) rfl ⟨by decide, by decide⟩ iV_X12_missOf g_X12_410) (fx_an))⟩ d_X12_missedBy km117_k
-- X12_drop 0 i ('c', 6) +
def km118_c : fx_C := ([.inr (.inr 1), .inl (0, 5)], [((0, 41), .inr (.inr 43)), ((2, 12), .inl (6, 6))], [(none, [.inr (.inr 1), .inl (0, 5)], [((0, 41), .inr (.inr 43)), ((2, 5), .inl (0, 0)), ((2, 12), .inl (5, 5))])], [(1000, 42)])
def km118_a : List fx_N := [(2, [(0, .inr (.inr 1)), (1, .inl (0, 5)), (2, .inl (0, 5))], [((0, 41), .inr (.inr 43)), ((3, 12), .inl (6, 6))], [(0, 0), (1, 2), (0, 0)], [(0, 0), (1, 1)])]
def km118_s : List fx_D := []
def km118_x : fx_X := ([], [(92, 12, 41)], [], [], [], [])
set_option maxRecDepth 100000 in
theorem km118_k : fx_chk TM 3 km118_c 9 km118_x t_X12_drop km118_a km118_s 29 = true := by decide +kernel
set_option maxRecDepth 100000 in
theorem km118 {l : Launch} {E : (Nat → Prop) → State → Prop} {ad : List Nat} {D : va_G} {cy : Nat → ClassId} (h : fx_env E D classes (tys cy) nestW) : fx_Met l yX12_drop (.code yX12_drop cX12_drop 3 none :: wsL_law) ({ frames := 0, cells := 0, slots := 0, locals := 0 }) E (gsM, TM, cy, fun _ => True) ad D classes km118_c :=
  fx_sound (x := km118_x) (tb := t_X12_drop) (an := km118_a) (sp := km118_s) (rk := 9) 29 h (fun _ _ _ _ _ _ => trivial) (fun _ _ _ _ _ _ => trivial) (ht_tys cy) (by decide) rfl ⟨fx_an, (fx_ac fl_X12_92 (fx_an)), fx_an, fx_an, fx_an, fx_an⟩ d_X12_drop km118_k
theorem km118_i {l : Launch} {E : (Nat → Prop) → State → Prop} {ad : List Nat} {D : va_G} {cy : Nat → ClassId} (h : fx_env E D classes (tys cy) nestW) : fx_Met l yX12_drop (.code yX12_drop cX12_drop 3 none :: wsL_law) ({ frames := 0, cells := 0, slots := 0, locals := 0 }) E (gsM, TM, cy, IM) ad D classes km118_c := fx_lift (km118 h) (im_lift (by decide +kernel))
-- X12_goRound 0 i ('c', 6) +
def km119_c : fx_C := ([.inr (.inr 1), .inl (0, 2)], [((0, 41), .inr (.inr 43)), ((2, 12), .inl (6, 6))], [(some (.inl (0, 8)), [.inr (.inr 1), .inl (0, 2)], [((0, 41), .inr (.inr 43)), ((2, 5), .inl (0, 0)), ((2, 12), .inl (5, 5))])], [(12, 40), (1000, 34), (1000, 42)])
def km119_a : List fx_N := []
def km119_s : List fx_D := []
def km119_x : fx_X := ([], [(92, 12, 41)], [], [], [], [(8, 413, 12, km117_c), (72, 416, 12, km118_c)])
set_option maxRecDepth 100000 in
theorem km119_k : fx_chk TM 4 km119_c 0 km119_x t_X12_goRound km119_a km119_s 52 = true := by decide +kernel
set_option maxRecDepth 100000 in
theorem km119 {l : Launch} {E : (Nat → Prop) → State → Prop} {ad : List Nat} {D : va_G} {cy : Nat → ClassId} (h : fx_env E D classes (tys cy) nestW) : fx_Met l yX12_goRound (.code yX12_goRound cX12_goRound 4 (some .int) :: wsL_law) ({ frames := 3, cells := 0, slots := 0, locals := 69 }) E (gsM, TM, cy, IM) ad D classes km119_c :=
  fx_sound (x := km119_x) (tb := t_X12_goRound) (an := km119_a) (sp := km119_s) (rk := 0) 52 h (im_frA (by decide +kernel)) (im_frF (by decide +kernel)) (ht_tys cy) (by decide) rfl ⟨fx_an, (fx_ac fl_X12_92 (fx_an)), fx_an, fx_an, fx_an, (fx_ac (ev_V (km117 h) (by decide) rfl ⟨by decide, by decide⟩ iV_X12_missedBy g_X12_413) (fx_ac (ev_V (km118_i h) (by decide) rfl ⟨by decide, by decide⟩ iV_X12_drop g_X12_416) (fx_an)))⟩ d_X12_goRound km119_k
-- X12_missedBy 0 i ('c', 7) +
def km120_c : fx_C := ([.inr (.inr 1), .inl (0, 1)], [((0, 41), .inr (.inr 43)), ((2, 12), .inl (7, 7))], [(some (.inl (0, 6)), [.inr (.inr 1), .inl (0, 1)], [])], [(12, 40), (1000, 34)])
def km120_a : List fx_N := [(7, [(2, .inl (-1, -1)), (0, .inr (.inr 1)), (1, .inl (0, 1)), (3, .inl (0, 0)), (4, .inl (0, 0))], [((1, 41), .inr (.inr 43)), ((5, 12), .inl (7, 7))], [(0, 2), (0, 0), (0, 0)], [(0, 1), (1, 2)]), (7, [(2, .inl (0, 0)), (0, .inr (.inr 1)), (1, .inl (0, 1)), (3, .inl (-2147483648, 2147483647)), (4, .inl (1, 7))], [((1, 41), .inr (.inr 43)), ((5, 12), .inl (7, 7))], [(0, 1), (1, 4), (0, 0)], [(0, 1), (1, 2)]), (7, [(2, .inl (1, 1)), (0, .inr (.inr 1)), (1, .inl (0, 1)), (3, .inl (-2147483648, 2147483647)), (4, .inl (2, 7))], [((1, 41), .inr (.inr 43)), ((5, 12), .inl (7, 7))], [(0, 3), (1, 4), (0, 0)], [(0, 1), (1, 2)]), (7, [(2, .inl (1, 6)), (0, .inr (.inr 1)), (1, .inl (0, 1)), (3, .inl (-2147483648, 2147483647)), (4, .inl (2, 7))], [((1, 41), .inr (.inr 43)), ((5, 12), .inl (7, 7))], [(0, 0), (1, 4), (0, 0)], [(0, 1), (1, 2)]), (7, [(2, .inl (2, 2)), (0, .inr (.inr 1)), (1, .inl (0, 1)), (3, .inl (-2147483648, 2147483647)), (4, .inl (3, 7))], [((1, 41), .inr (.inr 43)), ((5, 12), .inl (7, 7))], [(0, 4), (1, 4), (0, 0)], [(0, 1), (1, 2)]), (7, [(2, .inl (3, 3)), (0, .inr (.inr 1)), (1, .inl (0, 1)), (3, .inl (-2147483648, 2147483647)), (4, .inl (4, 7))], [((1, 41), .inr (.inr 43)), ((5, 12), .inl (7, 7))], [(0, 5), (1, 4), (0, 0)], [(0, 1), (1, 2)]), (7, [(2, .inl (4, 4)), (0, .inr (.inr 1)), (1, .inl (0, 1)), (3, .inl (-2147483648, 2147483647)), (4, .inl (5, 7))], [((1, 41), .inr (.inr 43)), ((5, 12), .inl (7, 7))], [(0, 6), (1, 4), (0, 0)], [(0, 1), (1, 2)]), (7, [(2, .inl (5, 5)), (0, .inr (.inr 1)), (1, .inl (0, 1)), (3, .inl (-2147483648, 2147483647)), (4, .inl (6, 7))], [((1, 41), .inr (.inr 43)), ((5, 12), .inl (7, 7))], [(0, 8), (1, 4), (0, 0)], [(0, 1), (1, 2)]), (7, [(2, .inl (6, 6)), (0, .inr (.inr 1)), (1, .inl (0, 1)), (3, .inl (-2147483648, 2147483647)), (4, .inl (7, 7))], [((1, 41), .inr (.inr 43)), ((5, 12), .inl (7, 7))], [(0, 7), (0, 0), (0, 0)], [(0, 1), (1, 2)])]
def km120_s : List fx_D := []
def km120_x : fx_X := ([], [(92, 12, 41)], [], [], [], [(22, 410, 12, km26_c)])
set_option maxRecDepth 100000 in
theorem km120_k : fx_chk TM 6 km120_c 0 km120_x t_X12_missedBy km120_a km120_s 26 = true := by decide +kernel
set_option maxRecDepth 100000 in
theorem km120 {l : Launch} {E : (Nat → Prop) → State → Prop} {ad : List Nat} {D : va_G} {cy : Nat → ClassId} (h : fx_env E D classes (tys cy) nestW) : fx_Met l yX12_missedBy (.code yX12_missedBy cX12_missedBy 6 (some .int) :: wsL_law) ({ frames := 2, cells := 0, slots := 0, locals := 44 }) E (gsM, TM, cy, IM) ad D classes km120_c :=
  fx_sound (x := km120_x) (tb := t_X12_missedBy) (an := km120_a) (sp := km120_s) (rk := 0) 26 h (im_frA (by decide +kernel)) (im_frF (by decide +kernel)) (ht_tys cy) (by decide) rfl ⟨fx_an, (fx_ac fl_X12_92 (fx_an)), fx_an, fx_an, fx_an, (fx_ac (ev_V (km26 h) (by decide) rfl ⟨by decide, by decide⟩ iV_X12_missOf g_X12_410) (fx_an))⟩ d_X12_missedBy km120_k
-- X12_drop 0 i ('c', 7) +
def km121_c : fx_C := ([.inr (.inr 1), .inl (0, 6)], [((0, 41), .inr (.inr 43)), ((2, 12), .inl (7, 7))], [(none, [.inr (.inr 1), .inl (0, 6)], [((0, 41), .inr (.inr 43)), ((2, 6), .inl (0, 0)), ((2, 12), .inl (6, 6))])], [(1000, 42)])
def km121_a : List fx_N := [(2, [(0, .inr (.inr 1)), (1, .inl (0, 6)), (2, .inl (0, 6))], [((0, 41), .inr (.inr 43)), ((3, 12), .inl (7, 7))], [(0, 0), (1, 2), (0, 0)], [(0, 0), (1, 1)])]
def km121_s : List fx_D := []
def km121_x : fx_X := ([], [(92, 12, 41)], [], [], [], [])
set_option maxRecDepth 100000 in
theorem km121_k : fx_chk TM 3 km121_c 9 km121_x t_X12_drop km121_a km121_s 29 = true := by decide +kernel
set_option maxRecDepth 100000 in
theorem km121 {l : Launch} {E : (Nat → Prop) → State → Prop} {ad : List Nat} {D : va_G} {cy : Nat → ClassId} (h : fx_env E D classes (tys cy) nestW) : fx_Met l yX12_drop (.code yX12_drop cX12_drop 3 none :: wsL_law) ({ frames := 0, cells := 0, slots := 0, locals := 0 }) E (gsM, TM, cy, fun _ => True) ad D classes km121_c :=
  fx_sound (x := km121_x) (tb := t_X12_drop) (an := km121_a) (sp := km121_s) (rk := 9) 29 h (fun _ _ _ _ _ _ => trivial) (fun _ _ _ _ _ _ => trivial) (ht_tys cy) (by decide) rfl ⟨fx_an, (fx_ac fl_X12_92 (fx_an)), fx_an, fx_an, fx_an, fx_an⟩ d_X12_drop km121_k
theorem km121_i {l : Launch} {E : (Nat → Prop) → State → Prop} {ad : List Nat} {D : va_G} {cy : Nat → ClassId} (h : fx_env E D classes (tys cy) nestW) : fx_Met l yX12_drop (.code yX12_drop cX12_drop 3 none :: wsL_law) ({ frames := 0, cells := 0, slots := 0, locals := 0 }) E (gsM, TM, cy, IM) ad D classes km121_c := fx_lift (km121 h) (im_lift (by decide +kernel))
-- X12_goRound 0 i ('c', 7) +
def km122_c : fx_C := ([.inr (.inr 1), .inl (0, 2)], [((0, 41), .inr (.inr 43)), ((2, 12), .inl (7, 7))], [(some (.inl (0, 8)), [.inr (.inr 1), .inl (0, 2)], [((0, 41), .inr (.inr 43)), ((2, 6), .inl (0, 0)), ((2, 12), .inl (6, 6))])], [(12, 40), (1000, 34), (1000, 42)])
def km122_a : List fx_N := []
def km122_s : List fx_D := []
def km122_x : fx_X := ([], [(92, 12, 41)], [], [], [], [(8, 413, 12, km120_c), (72, 416, 12, km121_c)])
set_option maxRecDepth 100000 in
theorem km122_k : fx_chk TM 4 km122_c 0 km122_x t_X12_goRound km122_a km122_s 52 = true := by decide +kernel
set_option maxRecDepth 100000 in
theorem km122 {l : Launch} {E : (Nat → Prop) → State → Prop} {ad : List Nat} {D : va_G} {cy : Nat → ClassId} (h : fx_env E D classes (tys cy) nestW) : fx_Met l yX12_goRound (.code yX12_goRound cX12_goRound 4 (some .int) :: wsL_law) ({ frames := 3, cells := 0, slots := 0, locals := 69 }) E (gsM, TM, cy, IM) ad D classes km122_c :=
  fx_sound (x := km122_x) (tb := t_X12_goRound) (an := km122_a) (sp := km122_s) (rk := 0) 52 h (im_frA (by decide +kernel)) (im_frF (by decide +kernel)) (ht_tys cy) (by decide) rfl ⟨fx_an, (fx_ac fl_X12_92 (fx_an)), fx_an, fx_an, fx_an, (fx_ac (ev_V (km120 h) (by decide) rfl ⟨by decide, by decide⟩ iV_X12_missedBy g_X12_413) (fx_ac (ev_V (km121_i h) (by decide) rfl ⟨by decide, by decide⟩ iV_X12_drop g_X12_416) (fx_an)))⟩ d_X12_goRound km122_k
