-- X12_layPutIn 0 i i ('c', 3)
def km100_c : fx_C := ([.inr (.inr 1), .inl (3, 3), .inl (0, 8)], [((0, 45), .inl (3, 11))], [(none, [.inr (.inr 1), .inl (3, 3), .inl (0, 8)], [((0, 46), .inl (4, 12))])], [(12, 46), (1000, 28)])
def km100_a : List fx_N := [(12, [(0, .inr (.inr 1)), (1, .inl (3, 3)), (2, .inl (0, 8)), (3, .inl (0, 12))], [((0, 45), .inl (3, 11)), ((0, 46), .inl (4, 12))], [(0, 0), (1, 3), (0, 0)], [(0, 0), (1, 1), (2, 2)])]
def km100_s : List fx_D := []
def km100_x : fx_X := ([], [(95, 12, 42), (98, 12, 43), (384, 12, 45), (390, 12, 46)], [(390, 12, 46, 0)], [], [], [])
set_option maxRecDepth 100000 in
theorem km100_k : fx_chk TM 4 km100_c 9 km100_x t_X12_layPutIn km100_a km100_s 25 = true := by decide +kernel
set_option maxRecDepth 100000 in
theorem km100 {l : Launch} {E : (Nat → Prop) → State → Prop} {ad : List Nat} {D : va_G} {cy : Nat → ClassId} (h : fx_env E D classes (tys cy) nestW) : fx_Met l yX12_layPutIn (.code yX12_layPutIn cX12_layPutIn 4 none :: wsL_law) ({ frames := 0, cells := 0, slots := 0, locals := 0 }) E (gsM, TM, cy, fun _ => True) ad D classes km100_c :=
  fx_sound (x := km100_x) (tb := t_X12_layPutIn) (an := km100_a) (sp := km100_s) (rk := 9) 25 h (fun _ _ _ _ _ _ => trivial) (fun _ _ _ _ _ _ => trivial) (ht_tys cy) (by decide) rfl ⟨fx_an, (fx_ac fl_X12_95 (fx_ac fl_X12_98 (fx_ac fl_X12_384 (fx_ac fl_X12_390 (fx_an))))), (fx_ac pl_X12_390 (fx_an)), fx_an, fx_an, fx_an⟩ d_X12_layPutIn km100_k
-- X12_layPutIn 0 i i ('c', 4)
def km101_c : fx_C := ([.inr (.inr 1), .inl (4, 4), .inl (0, 8)], [((0, 45), .inl (4, 11))], [(none, [.inr (.inr 1), .inl (4, 4), .inl (0, 8)], [((0, 46), .inl (5, 12))])], [(12, 46), (1000, 28)])
def km101_a : List fx_N := [(12, [(0, .inr (.inr 1)), (1, .inl (4, 4)), (2, .inl (0, 8)), (3, .inl (0, 12))], [((0, 45), .inl (4, 11)), ((0, 46), .inl (5, 12))], [(0, 0), (1, 3), (0, 0)], [(0, 0), (1, 1), (2, 2)])]
def km101_s : List fx_D := []
def km101_x : fx_X := ([], [(95, 12, 42), (98, 12, 43), (384, 12, 45), (390, 12, 46)], [(390, 12, 46, 0)], [], [], [])
set_option maxRecDepth 100000 in
theorem km101_k : fx_chk TM 4 km101_c 9 km101_x t_X12_layPutIn km101_a km101_s 25 = true := by decide +kernel
set_option maxRecDepth 100000 in
theorem km101 {l : Launch} {E : (Nat → Prop) → State → Prop} {ad : List Nat} {D : va_G} {cy : Nat → ClassId} (h : fx_env E D classes (tys cy) nestW) : fx_Met l yX12_layPutIn (.code yX12_layPutIn cX12_layPutIn 4 none :: wsL_law) ({ frames := 0, cells := 0, slots := 0, locals := 0 }) E (gsM, TM, cy, fun _ => True) ad D classes km101_c :=
  fx_sound (x := km101_x) (tb := t_X12_layPutIn) (an := km101_a) (sp := km101_s) (rk := 9) 25 h (fun _ _ _ _ _ _ => trivial) (fun _ _ _ _ _ _ => trivial) (ht_tys cy) (by decide) rfl ⟨fx_an, (fx_ac fl_X12_95 (fx_ac fl_X12_98 (fx_ac fl_X12_384 (fx_ac fl_X12_390 (fx_an))))), (fx_ac pl_X12_390 (fx_an)), fx_an, fx_an, fx_an⟩ d_X12_layPutIn km101_k
-- X12_layPutIn 0 i i ('c', 5)
def km102_c : fx_C := ([.inr (.inr 1), .inl (5, 5), .inl (0, 8)], [((0, 45), .inl (5, 11))], [(none, [.inr (.inr 1), .inl (5, 5), .inl (0, 8)], [((0, 46), .inl (6, 12))])], [(12, 46), (1000, 28)])
def km102_a : List fx_N := [(12, [(0, .inr (.inr 1)), (1, .inl (5, 5)), (2, .inl (0, 8)), (3, .inl (0, 12))], [((0, 45), .inl (5, 11)), ((0, 46), .inl (6, 12))], [(0, 0), (1, 3), (0, 0)], [(0, 0), (1, 1), (2, 2)])]
def km102_s : List fx_D := []
def km102_x : fx_X := ([], [(95, 12, 42), (98, 12, 43), (384, 12, 45), (390, 12, 46)], [(390, 12, 46, 0)], [], [], [])
set_option maxRecDepth 100000 in
theorem km102_k : fx_chk TM 4 km102_c 9 km102_x t_X12_layPutIn km102_a km102_s 25 = true := by decide +kernel
set_option maxRecDepth 100000 in
theorem km102 {l : Launch} {E : (Nat → Prop) → State → Prop} {ad : List Nat} {D : va_G} {cy : Nat → ClassId} (h : fx_env E D classes (tys cy) nestW) : fx_Met l yX12_layPutIn (.code yX12_layPutIn cX12_layPutIn 4 none :: wsL_law) ({ frames := 0, cells := 0, slots := 0, locals := 0 }) E (gsM, TM, cy, fun _ => True) ad D classes km102_c :=
  fx_sound (x := km102_x) (tb := t_X12_layPutIn) (an := km102_a) (sp := km102_s) (rk := 9) 25 h (fun _ _ _ _ _ _ => trivial) (fun _ _ _ _ _ _ => trivial) (ht_tys cy) (by decide) rfl ⟨fx_an, (fx_ac fl_X12_95 (fx_ac fl_X12_98 (fx_ac fl_X12_384 (fx_ac fl_X12_390 (fx_an))))), (fx_ac pl_X12_390 (fx_an)), fx_an, fx_an, fx_an⟩ d_X12_layPutIn km102_k
-- X12_layPutIn 0 i i ('c', 6)
def km103_c : fx_C := ([.inr (.inr 1), .inl (6, 6), .inl (0, 8)], [((0, 45), .inl (6, 11))], [(none, [.inr (.inr 1), .inl (6, 6), .inl (0, 8)], [((0, 46), .inl (7, 12))])], [(12, 46), (1000, 28)])
def km103_a : List fx_N := [(12, [(0, .inr (.inr 1)), (1, .inl (6, 6)), (2, .inl (0, 8)), (3, .inl (0, 12))], [((0, 45), .inl (6, 11)), ((0, 46), .inl (7, 12))], [(0, 0), (1, 3), (0, 0)], [(0, 0), (1, 1), (2, 2)])]
def km103_s : List fx_D := []
def km103_x : fx_X := ([], [(95, 12, 42), (98, 12, 43), (384, 12, 45), (390, 12, 46)], [(390, 12, 46, 0)], [], [], [])
set_option maxRecDepth 100000 in
theorem km103_k : fx_chk TM 4 km103_c 9 km103_x t_X12_layPutIn km103_a km103_s 25 = true := by decide +kernel
set_option maxRecDepth 100000 in
theorem km103 {l : Launch} {E : (Nat → Prop) → State → Prop} {ad : List Nat} {D : va_G} {cy : Nat → ClassId} (h : fx_env E D classes (tys cy) nestW) : fx_Met l yX12_layPutIn (.code yX12_layPutIn cX12_layPutIn 4 none :: wsL_law) ({ frames := 0, cells := 0, slots := 0, locals := 0 }) E (gsM, TM, cy, fun _ => True) ad D classes km103_c :=
  fx_sound (x := km103_x) (tb := t_X12_layPutIn) (an := km103_a) (sp := km103_s) (rk := 9) 25 h (fun _ _ _ _ _ _ => trivial) (fun _ _ _ _ _ _ => trivial) (ht_tys cy) (by decide) rfl ⟨fx_an, (fx_ac fl_X12_95 (fx_ac fl_X12_98 (fx_ac fl_X12_384 (fx_ac fl_X12_390 (fx_an))))), (fx_ac pl_X12_390 (fx_an)), fx_an, fx_an, fx_an⟩ d_X12_layPutIn km103_k
-- X12_layPutIn 0 i i ('c', 7)
def km104_c : fx_C := ([.inr (.inr 1), .inl (7, 7), .inl (0, 8)], [((0, 45), .inl (7, 11))], [(none, [.inr (.inr 1), .inl (7, 7), .inl (0, 8)], [((0, 46), .inl (8, 12))])], [(12, 46), (1000, 28)])
def km104_a : List fx_N := [(12, [(0, .inr (.inr 1)), (1, .inl (7, 7)), (2, .inl (0, 8)), (3, .inl (0, 12))], [((0, 45), .inl (7, 11)), ((0, 46), .inl (8, 12))], [(0, 0), (1, 3), (0, 0)], [(0, 0), (1, 1), (2, 2)])]
def km104_s : List fx_D := []
def km104_x : fx_X := ([], [(95, 12, 42), (98, 12, 43), (384, 12, 45), (390, 12, 46)], [(390, 12, 46, 0)], [], [], [])
set_option maxRecDepth 100000 in
theorem km104_k : fx_chk TM 4 km104_c 9 km104_x t_X12_layPutIn km104_a km104_s 25 = true := by decide +kernel
set_option maxRecDepth 100000 in
theorem km104 {l : Launch} {E : (Nat → Prop) → State → Prop} {ad : List Nat} {D : va_G} {cy : Nat → ClassId} (h : fx_env E D classes (tys cy) nestW) : fx_Met l yX12_layPutIn (.code yX12_layPutIn cX12_layPutIn 4 none :: wsL_law) ({ frames := 0, cells := 0, slots := 0, locals := 0 }) E (gsM, TM, cy, fun _ => True) ad D classes km104_c :=
  fx_sound (x := km104_x) (tb := t_X12_layPutIn) (an := km104_a) (sp := km104_s) (rk := 9) 25 h (fun _ _ _ _ _ _ => trivial) (fun _ _ _ _ _ _ => trivial) (ht_tys cy) (by decide) rfl ⟨fx_an, (fx_ac fl_X12_95 (fx_ac fl_X12_98 (fx_ac fl_X12_384 (fx_ac fl_X12_390 (fx_an))))), (fx_ac pl_X12_390 (fx_an)), fx_an, fx_an, fx_an⟩ d_X12_layPutIn km104_k
-- X12_layPutIn 0 i i ('c', 8)
def km105_c : fx_C := ([.inr (.inr 1), .inl (8, 8), .inl (0, 8)], [((0, 45), .inl (8, 11))], [(none, [.inr (.inr 1), .inl (8, 8), .inl (0, 8)], [((0, 46), .inl (9, 12))])], [(12, 46), (1000, 28)])
def km105_a : List fx_N := [(12, [(0, .inr (.inr 1)), (1, .inl (8, 8)), (2, .inl (0, 8)), (3, .inl (0, 12))], [((0, 45), .inl (8, 11)), ((0, 46), .inl (9, 12))], [(0, 0), (1, 3), (0, 0)], [(0, 0), (1, 1), (2, 2)])]
def km105_s : List fx_D := []
def km105_x : fx_X := ([], [(95, 12, 42), (98, 12, 43), (384, 12, 45), (390, 12, 46)], [(390, 12, 46, 0)], [], [], [])
set_option maxRecDepth 100000 in
theorem km105_k : fx_chk TM 4 km105_c 9 km105_x t_X12_layPutIn km105_a km105_s 25 = true := by decide +kernel
set_option maxRecDepth 100000 in
theorem km105 {l : Launch} {E : (Nat → Prop) → State → Prop} {ad : List Nat} {D : va_G} {cy : Nat → ClassId} (h : fx_env E D classes (tys cy) nestW) : fx_Met l yX12_layPutIn (.code yX12_layPutIn cX12_layPutIn 4 none :: wsL_law) ({ frames := 0, cells := 0, slots := 0, locals := 0 }) E (gsM, TM, cy, fun _ => True) ad D classes km105_c :=
  fx_sound (x := km105_x) (tb := t_X12_layPutIn) (an := km105_a) (sp := km105_s) (rk := 9) 25 h (fun _ _ _ _ _ _ => trivial) (fun _ _ _ _ _ _ => trivial) (ht_tys cy) (by decide) rfl ⟨fx_an, (fx_ac fl_X12_95 (fx_ac fl_X12_98 (fx_ac fl_X12_384 (fx_ac fl_X12_390 (fx_an))))), (fx_ac pl_X12_390 (fx_an)), fx_an, fx_an, fx_an⟩ d_X12_layPutIn km105_k
-- X12_layPutIn 0 i i ('c', 9)
def km106_c : fx_C := ([.inr (.inr 1), .inl (9, 9), .inl (0, 8)], [((0, 45), .inl (9, 11))], [(none, [.inr (.inr 1), .inl (9, 9), .inl (0, 8)], [((0, 46), .inl (10, 12))])], [(12, 46), (1000, 28)])
def km106_a : List fx_N := [(12, [(0, .inr (.inr 1)), (1, .inl (9, 9)), (2, .inl (0, 8)), (3, .inl (0, 12))], [((0, 45), .inl (9, 11)), ((0, 46), .inl (10, 12))], [(0, 0), (1, 3), (0, 0)], [(0, 0), (1, 1), (2, 2)])]
def km106_s : List fx_D := []
def km106_x : fx_X := ([], [(95, 12, 42), (98, 12, 43), (384, 12, 45), (390, 12, 46)], [(390, 12, 46, 0)], [], [], [])
set_option maxRecDepth 100000 in
theorem km106_k : fx_chk TM 4 km106_c 9 km106_x t_X12_layPutIn km106_a km106_s 25 = true := by decide +kernel
set_option maxRecDepth 100000 in
theorem km106 {l : Launch} {E : (Nat → Prop) → State → Prop} {ad : List Nat} {D : va_G} {cy : Nat → ClassId} (h : fx_env E D classes (tys cy) nestW) : fx_Met l yX12_layPutIn (.code yX12_layPutIn cX12_layPutIn 4 none :: wsL_law) ({ frames := 0, cells := 0, slots := 0, locals := 0 }) E (gsM, TM, cy, fun _ => True) ad D classes km106_c :=
  fx_sound (x := km106_x) (tb := t_X12_layPutIn) (an := km106_a) (sp := km106_s) (rk := 9) 25 h (fun _ _ _ _ _ _ => trivial) (fun _ _ _ _ _ _ => trivial) (ht_tys cy) (by decide) rfl ⟨fx_an, (fx_ac fl_X12_95 (fx_ac fl_X12_98 (fx_ac fl_X12_384 (fx_ac fl_X12_390 (fx_an))))), (fx_ac pl_X12_390 (fx_an)), fx_an, fx_an, fx_an⟩ d_X12_layPutIn km106_k
-- X12_layPutIn 0 i i ('c', 10)
def km107_c : fx_C := ([.inr (.inr 1), .inl (10, 10), .inl (0, 8)], [((0, 45), .inl (10, 11))], [(none, [.inr (.inr 1), .inl (10, 10), .inl (0, 8)], [((0, 46), .inl (11, 12))])], [(12, 46), (1000, 28)])
def km107_a : List fx_N := [(12, [(0, .inr (.inr 1)), (1, .inl (10, 10)), (2, .inl (0, 8)), (3, .inl (0, 12))], [((0, 45), .inl (10, 11)), ((0, 46), .inl (11, 12))], [(0, 0), (1, 3), (0, 0)], [(0, 0), (1, 1), (2, 2)])]
def km107_s : List fx_D := []
def km107_x : fx_X := ([], [(95, 12, 42), (98, 12, 43), (384, 12, 45), (390, 12, 46)], [(390, 12, 46, 0)], [], [], [])
set_option maxRecDepth 100000 in
theorem km107_k : fx_chk TM 4 km107_c 9 km107_x t_X12_layPutIn km107_a km107_s 25 = true := by decide +kernel
set_option maxRecDepth 100000 in
theorem km107 {l : Launch} {E : (Nat → Prop) → State → Prop} {ad : List Nat} {D : va_G} {cy : Nat → ClassId} (h : fx_env E D classes (tys cy) nestW) : fx_Met l yX12_layPutIn (.code yX12_layPutIn cX12_layPutIn 4 none :: wsL_law) ({ frames := 0, cells := 0, slots := 0, locals := 0 }) E (gsM, TM, cy, fun _ => True) ad D classes km107_c :=
  fx_sound (x := km107_x) (tb := t_X12_layPutIn) (an := km107_a) (sp := km107_s) (rk := 9) 25 h (fun _ _ _ _ _ _ => trivial) (fun _ _ _ _ _ _ => trivial) (ht_tys cy) (by decide) rfl ⟨fx_an, (fx_ac fl_X12_95 (fx_ac fl_X12_98 (fx_ac fl_X12_384 (fx_ac fl_X12_390 (fx_an))))), (fx_ac pl_X12_390 (fx_an)), fx_an, fx_an, fx_an⟩ d_X12_layPutIn km107_k
-- X12_layPutIn 0 i i ('c', 11)
def km108_c : fx_C := ([.inr (.inr 1), .inl (11, 11), .inl (0, 8)], [((0, 45), .inl (11, 11))], [(none, [.inr (.inr 1), .inl (11, 11), .inl (0, 8)], [((0, 46), .inl (12, 12))])], [(12, 46), (1000, 28)])
def km108_a : List fx_N := [(12, [(0, .inr (.inr 1)), (1, .inl (11, 11)), (2, .inl (0, 8)), (3, .inl (0, 12))], [((0, 45), .inl (11, 11)), ((0, 46), .inl (12, 12))], [(0, 0), (1, 3), (0, 0)], [(0, 0), (1, 1), (2, 2)])]
def km108_s : List fx_D := []
def km108_x : fx_X := ([], [(95, 12, 42), (98, 12, 43), (384, 12, 45), (390, 12, 46)], [(390, 12, 46, 0)], [], [], [])
set_option maxRecDepth 100000 in
theorem km108_k : fx_chk TM 4 km108_c 9 km108_x t_X12_layPutIn km108_a km108_s 21 = true := by decide +kernel
set_option maxRecDepth 100000 in
theorem km108 {l : Launch} {E : (Nat → Prop) → State → Prop} {ad : List Nat} {D : va_G} {cy : Nat → ClassId} (h : fx_env E D classes (tys cy) nestW) : fx_Met l yX12_layPutIn (.code yX12_layPutIn cX12_layPutIn 4 none :: wsL_law) ({ frames := 0, cells := 0, slots := 0, locals := 0 }) E (gsM, TM, cy, fun _ => True) ad D classes km108_c :=
  fx_sound (x := km108_x) (tb := t_X12_layPutIn) (an := km108_a) (sp := km108_s) (rk := 9) 21 h (fun _ _ _ _ _ _ => trivial) (fun _ _ _ _ _ _ => trivial) (ht_tys cy) (by decide) rfl ⟨fx_an, (fx_ac fl_X12_95 (fx_ac fl_X12_98 (fx_ac fl_X12_384 (fx_ac fl_X12_390 (fx_an))))), (fx_ac pl_X12_390 (fx_an)), fx_an, fx_an, fx_an⟩ d_X12_layPutIn km108_k
