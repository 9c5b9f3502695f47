-- X2_bestTurn 4 11 i i ('c', 7)
def kx264_c : fx_C := ([.inr (.inr 5), .inr (.inr 12), .inl (0, 4095), .inl (0, 1)], [((1, 1), .inl (7, 7))], [(some (.inl (-2147483648, 2147483647)), [.inr (.inr 5), .inr (.inr 12), .inl (0, 4095), .inl (0, 1)], [])], [])
def kx264_a : List fx_N := [(9, [(6, .inl (0, 0)), (0, .inr (.inr 5)), (1, .inr (.inr 12)), (2, .inl (0, 4095)), (3, .inl (0, 1)), (4, .inl (0, 0)), (5, .inl (0, 0))], [((2, 1), .inl (7, 7))], [(0, 7)], [(0, 1), (1, 2), (2, 3), (3, 4)]), (9, [(6, .inl (1, 1)), (0, .inr (.inr 5)), (1, .inr (.inr 12)), (2, .inl (0, 4095)), (3, .inl (0, 1)), (4, .inl (0, 1)), (5, .inl (-2147483648, 2147483647))], [((2, 1), .inl (7, 7))], [(0, 6)], [(0, 1), (1, 2), (2, 3), (3, 4)]), (9, [(6, .inl (2, 2)), (0, .inr (.inr 5)), (1, .inr (.inr 12)), (2, .inl (0, 4095)), (3, .inl (0, 1)), (4, .inl (0, 1)), (5, .inl (-2147483648, 2147483647))], [((2, 1), .inl (7, 7))], [(0, 5)], [(0, 1), (1, 2), (2, 3), (3, 4)]), (9, [(6, .inl (3, 3)), (0, .inr (.inr 5)), (1, .inr (.inr 12)), (2, .inl (0, 4095)), (3, .inl (0, 1)), (4, .inl (0, 1)), (5, .inl (-2147483648, 2147483647))], [((2, 1), .inl (7, 7))], [(0, 4)], [(0, 1), (1, 2), (2, 3), (3, 4)]), (9, [(6, .inl (4, 4)), (0, .inr (.inr 5)), (1, .inr (.inr 12)), (2, .inl (0, 4095)), (3, .inl (0, 1)), (4, .inl (0, 1)), (5, .inl (-2147483648, 2147483647))], [((2, 1), .inl (7, 7))], [(0, 3)], [(0, 1), (1, 2), (2, 3), (3, 4)]), (9, [(6, .inl (5, 5)), (0, .inr (.inr 5)), (1, .inr (.inr 12)), (2, .inl (0, 4095)), (3, .inl (0, 1)), (4, .inl (0, 1)), (5, .inl (-2147483648, 2147483647))], [((2, 1), .inl (7, 7))], [(0, 2)], [(0, 1), (1, 2), (2, 3), (3, 4)]), (9, [(6, .inl (6, 6)), (0, .inr (.inr 5)), (1, .inr (.inr 12)), (2, .inl (0, 4095)), (3, .inl (0, 1)), (4, .inl (0, 1)), (5, .inl (-2147483648, 2147483647))], [((2, 1), .inl (7, 7))], [(0, 1)], [(0, 1), (1, 2), (2, 3), (3, 4)]), (9, [(6, .inl (7, 7)), (0, .inr (.inr 5)), (1, .inr (.inr 12)), (2, .inl (0, 4095)), (3, .inl (0, 1)), (4, .inl (0, 1)), (5, .inl (-2147483648, 2147483647))], [((2, 1), .inl (7, 7))], [(0, 0)], [(0, 1), (1, 2), (2, 3), (3, 4)])]
def kx264_s : List fx_D := []
def kx264_x : fx_X := ([], [(11, 2, 0), (37, 1, 1)], [], [], [], [(22, 43, 1000, kx257_c), (22, 43, 1000, kx258_c), (22, 43, 1000, kx259_c), (22, 43, 1000, kx260_c), (22, 43, 1000, kx261_c), (22, 43, 1000, kx262_c), (22, 43, 1000, kx263_c)])
set_option maxRecDepth 100000 in
theorem kx264_k : fx_chk TX 9 kx264_c 0 kx264_x t_X2_bestTurn kx264_a kx264_s 38 = true := by decide +kernel
set_option maxRecDepth 100000 in
theorem kx264 {l : Launch} {E : (Nat → Prop) → State → Prop} {ad : List Nat} {D : va_G} {gs : List Nat} {cy : Nat → ClassId} (h : fxX E D cy) : fx_Met l yX2_bestTurn (.code yX2_bestTurn cX2_bestTurn 9 (some .int) :: wsL_law) ({ frames := 1, cells := 0, slots := 0, locals := 21 }) E (gs, TX, cy, fun _ => True) ad D classes kx264_c :=
  fx_sound (x := kx264_x) (tb := t_X2_bestTurn) (an := kx264_a) (sp := kx264_s) (rk := 0) 38 h.1 (fun _ _ _ _ _ _ => trivial) (fun _ _ _ _ _ _ => trivial) (ht_tys cy) (by decide) rfl ⟨fx_an, (fx_ac fl_X2_11 (fx_ac fl_X2_37 (fx_an))), fx_an, fx_an, fx_an, (fx_ac (ev_S (kx257 h) ⟨by decide, by decide⟩ iS_X2_bitOf g_X2_43) (fx_ac (ev_S (kx258 h) ⟨by decide, by decide⟩ iS_X2_bitOf g_X2_43) (fx_ac (ev_S (kx259 h) ⟨by decide, by decide⟩ iS_X2_bitOf g_X2_43) (fx_ac (ev_S (kx260 h) ⟨by decide, by decide⟩ iS_X2_bitOf g_X2_43) (fx_ac (ev_S (kx261 h) ⟨by decide, by decide⟩ iS_X2_bitOf g_X2_43) (fx_ac (ev_S (kx262 h) ⟨by decide, by decide⟩ iS_X2_bitOf g_X2_43) (fx_ac (ev_S (kx263 h) ⟨by decide, by decide⟩ iS_X2_bitOf g_X2_43) (fx_an))))))))⟩ d_X2_bestTurn kx264_k
-- X2_bitOf 11 i ('c', 0) ('c', 8)
def kx265_c : fx_C := ([.inr (.inr 12), .inl (0, 0)], [((0, 1), .inl (8, 8))], [(some (.inl (128, 128)), [.inr (.inr 12), .inl (0, 0)], [])], [])
def kx265_a : List fx_N := []
def kx265_s : List fx_D := []
def kx265_x : fx_X := ([], [(37, 1, 1)], [], [], [], [])
set_option maxRecDepth 100000 in
theorem kx265_k : fx_chk TX 2 kx265_c 0 kx265_x t_X2_bitOf kx265_a kx265_s 11 = true := by decide +kernel
set_option maxRecDepth 100000 in
theorem kx265 {l : Launch} {E : (Nat → Prop) → State → Prop} {ad : List Nat} {D : va_G} {gs : List Nat} {cy : Nat → ClassId} (h : fxX E D cy) : fx_Met l yX2_bitOf (.code yX2_bitOf cX2_bitOf 2 (some .int) :: wsL_law) ({ frames := 0, cells := 0, slots := 0, locals := 0 }) E (gs, TX, cy, fun _ => True) ad D classes kx265_c :=
  fx_sound (x := kx265_x) (tb := t_X2_bitOf) (an := kx265_a) (sp := kx265_s) (rk := 0) 11 h.1 (fun _ _ _ _ _ _ => trivial) (fun _ _ _ _ _ _ => trivial) (ht_tys cy) (by decide) rfl ⟨fx_an, (fx_ac fl_X2_37 (fx_an)), fx_an, fx_an, fx_an, fx_an⟩ d_X2_bitOf kx265_k
-- X2_bitOf 11 i ('c', 1) ('c', 8)
def kx266_c : fx_C := ([.inr (.inr 12), .inl (1, 1)], [((0, 1), .inl (8, 8))], [(some (.inl (64, 64)), [.inr (.inr 12), .inl (1, 1)], [])], [])
def kx266_a : List fx_N := []
def kx266_s : List fx_D := []
def kx266_x : fx_X := ([], [(37, 1, 1)], [], [], [], [])
set_option maxRecDepth 100000 in
theorem kx266_k : fx_chk TX 2 kx266_c 0 kx266_x t_X2_bitOf kx266_a kx266_s 11 = true := by decide +kernel
set_option maxRecDepth 100000 in
theorem kx266 {l : Launch} {E : (Nat → Prop) → State → Prop} {ad : List Nat} {D : va_G} {gs : List Nat} {cy : Nat → ClassId} (h : fxX E D cy) : fx_Met l yX2_bitOf (.code yX2_bitOf cX2_bitOf 2 (some .int) :: wsL_law) ({ frames := 0, cells := 0, slots := 0, locals := 0 }) E (gs, TX, cy, fun _ => True) ad D classes kx266_c :=
  fx_sound (x := kx266_x) (tb := t_X2_bitOf) (an := kx266_a) (sp := kx266_s) (rk := 0) 11 h.1 (fun _ _ _ _ _ _ => trivial) (fun _ _ _ _ _ _ => trivial) (ht_tys cy) (by decide) rfl ⟨fx_an, (fx_ac fl_X2_37 (fx_an)), fx_an, fx_an, fx_an, fx_an⟩ d_X2_bitOf kx266_k
-- X2_bitOf 11 i ('c', 2) ('c', 8)
def kx267_c : fx_C := ([.inr (.inr 12), .inl (2, 2)], [((0, 1), .inl (8, 8))], [(some (.inl (32, 32)), [.inr (.inr 12), .inl (2, 2)], [])], [])
def kx267_a : List fx_N := []
def kx267_s : List fx_D := []
def kx267_x : fx_X := ([], [(37, 1, 1)], [], [], [], [])
set_option maxRecDepth 100000 in
theorem kx267_k : fx_chk TX 2 kx267_c 0 kx267_x t_X2_bitOf kx267_a kx267_s 11 = true := by decide +kernel
set_option maxRecDepth 100000 in
theorem kx267 {l : Launch} {E : (Nat → Prop) → State → Prop} {ad : List Nat} {D : va_G} {gs : List Nat} {cy : Nat → ClassId} (h : fxX E D cy) : fx_Met l yX2_bitOf (.code yX2_bitOf cX2_bitOf 2 (some .int) :: wsL_law) ({ frames := 0, cells := 0, slots := 0, locals := 0 }) E (gs, TX, cy, fun _ => True) ad D classes kx267_c :=
  fx_sound (x := kx267_x) (tb := t_X2_bitOf) (an := kx267_a) (sp := kx267_s) (rk := 0) 11 h.1 (fun _ _ _ _ _ _ => trivial) (fun _ _ _ _ _ _ => trivial) (ht_tys cy) (by decide) rfl ⟨fx_an, (fx_ac fl_X2_37 (fx_an)), fx_an, fx_an, fx_an, fx_an⟩ d_X2_bitOf kx267_k
-- X2_bitOf 11 i ('c', 3) ('c', 8)
def kx268_c : fx_C := ([.inr (.inr 12), .inl (3, 3)], [((0, 1), .inl (8, 8))], [(some (.inl (16, 16)), [.inr (.inr 12), .inl (3, 3)], [])], [])
def kx268_a : List fx_N := []
def kx268_s : List fx_D := []
def kx268_x : fx_X := ([], [(37, 1, 1)], [], [], [], [])
set_option maxRecDepth 100000 in
theorem kx268_k : fx_chk TX 2 kx268_c 0 kx268_x t_X2_bitOf kx268_a kx268_s 11 = true := by decide +kernel
set_option maxRecDepth 100000 in
theorem kx268 {l : Launch} {E : (Nat → Prop) → State → Prop} {ad : List Nat} {D : va_G} {gs : List Nat} {cy : Nat → ClassId} (h : fxX E D cy) : fx_Met l yX2_bitOf (.code yX2_bitOf cX2_bitOf 2 (some .int) :: wsL_law) ({ frames := 0, cells := 0, slots := 0, locals := 0 }) E (gs, TX, cy, fun _ => True) ad D classes kx268_c :=
  fx_sound (x := kx268_x) (tb := t_X2_bitOf) (an := kx268_a) (sp := kx268_s) (rk := 0) 11 h.1 (fun _ _ _ _ _ _ => trivial) (fun _ _ _ _ _ _ => trivial) (ht_tys cy) (by decide) rfl ⟨fx_an, (fx_ac fl_X2_37 (fx_an)), fx_an, fx_an, fx_an, fx_an⟩ d_X2_bitOf kx268_k
-- X2_bitOf 11 i ('c', 4) ('c', 8)
def kx269_c : fx_C := ([.inr (.inr 12), .inl (4, 4)], [((0, 1), .inl (8, 8))], [(some (.inl (8, 8)), [.inr (.inr 12), .inl (4, 4)], [])], [])
def kx269_a : List fx_N := []
def kx269_s : List fx_D := []
def kx269_x : fx_X := ([], [(37, 1, 1)], [], [], [], [])
set_option maxRecDepth 100000 in
theorem kx269_k : fx_chk TX 2 kx269_c 0 kx269_x t_X2_bitOf kx269_a kx269_s 11 = true := by decide +kernel
set_option maxRecDepth 100000 in
theorem kx269 {l : Launch} {E : (Nat → Prop) → State → Prop} {ad : List Nat} {D : va_G} {gs : List Nat} {cy : Nat → ClassId} (h : fxX E D cy) : fx_Met l yX2_bitOf (.code yX2_bitOf cX2_bitOf 2 (some .int) :: wsL_law) ({ frames := 0, cells := 0, slots := 0, locals := 0 }) E (gs, TX, cy, fun _ => True) ad D classes kx269_c :=
  fx_sound (x := kx269_x) (tb := t_X2_bitOf) (an := kx269_a) (sp := kx269_s) (rk := 0) 11 h.1 (fun _ _ _ _ _ _ => trivial) (fun _ _ _ _ _ _ => trivial) (ht_tys cy) (by decide) rfl ⟨fx_an, (fx_ac fl_X2_37 (fx_an)), fx_an, fx_an, fx_an, fx_an⟩ d_X2_bitOf kx269_k
-- X2_bitOf 11 i ('c', 5) ('c', 8)
def kx270_c : fx_C := ([.inr (.inr 12), .inl (5, 5)], [((0, 1), .inl (8, 8))], [(some (.inl (4, 4)), [.inr (.inr 12), .inl (5, 5)], [])], [])
def kx270_a : List fx_N := []
def kx270_s : List fx_D := []
def kx270_x : fx_X := ([], [(37, 1, 1)], [], [], [], [])
set_option maxRecDepth 100000 in
theorem kx270_k : fx_chk TX 2 kx270_c 0 kx270_x t_X2_bitOf kx270_a kx270_s 11 = true := by decide +kernel
set_option maxRecDepth 100000 in
theorem kx270 {l : Launch} {E : (Nat → Prop) → State → Prop} {ad : List Nat} {D : va_G} {gs : List Nat} {cy : Nat → ClassId} (h : fxX E D cy) : fx_Met l yX2_bitOf (.code yX2_bitOf cX2_bitOf 2 (some .int) :: wsL_law) ({ frames := 0, cells := 0, slots := 0, locals := 0 }) E (gs, TX, cy, fun _ => True) ad D classes kx270_c :=
  fx_sound (x := kx270_x) (tb := t_X2_bitOf) (an := kx270_a) (sp := kx270_s) (rk := 0) 11 h.1 (fun _ _ _ _ _ _ => trivial) (fun _ _ _ _ _ _ => trivial) (ht_tys cy) (by decide) rfl ⟨fx_an, (fx_ac fl_X2_37 (fx_an)), fx_an, fx_an, fx_an, fx_an⟩ d_X2_bitOf kx270_k
-- X2_bitOf 11 i ('c', 6) ('c', 8)
def kx271_c : fx_C := ([.inr (.inr 12), .inl (6, 6)], [((0, 1), .inl (8, 8))], [(some (.inl (2, 2)), [.inr (.inr 12), .inl (6, 6)], [])], [])
def kx271_a : List fx_N := []
def kx271_s : List fx_D := []
def kx271_x : fx_X := ([], [(37, 1, 1)], [], [], [], [])
set_option maxRecDepth 100000 in
theorem kx271_k : fx_chk TX 2 kx271_c 0 kx271_x t_X2_bitOf kx271_a kx271_s 11 = true := by decide +kernel
set_option maxRecDepth 100000 in
theorem kx271 {l : Launch} {E : (Nat → Prop) → State → Prop} {ad : List Nat} {D : va_G} {gs : List Nat} {cy : Nat → ClassId} (h : fxX E D cy) : fx_Met l yX2_bitOf (.code yX2_bitOf cX2_bitOf 2 (some .int) :: wsL_law) ({ frames := 0, cells := 0, slots := 0, locals := 0 }) E (gs, TX, cy, fun _ => True) ad D classes kx271_c :=
  fx_sound (x := kx271_x) (tb := t_X2_bitOf) (an := kx271_a) (sp := kx271_s) (rk := 0) 11 h.1 (fun _ _ _ _ _ _ => trivial) (fun _ _ _ _ _ _ => trivial) (ht_tys cy) (by decide) rfl ⟨fx_an, (fx_ac fl_X2_37 (fx_an)), fx_an, fx_an, fx_an, fx_an⟩ d_X2_bitOf kx271_k
-- X2_bitOf 11 i ('c', 7) ('c', 8)
def kx272_c : fx_C := ([.inr (.inr 12), .inl (7, 7)], [((0, 1), .inl (8, 8))], [(some (.inl (1, 1)), [.inr (.inr 12), .inl (7, 7)], [])], [])
def kx272_a : List fx_N := []
def kx272_s : List fx_D := []
def kx272_x : fx_X := ([], [(37, 1, 1)], [], [], [], [])
set_option maxRecDepth 100000 in
theorem kx272_k : fx_chk TX 2 kx272_c 0 kx272_x t_X2_bitOf kx272_a kx272_s 11 = true := by decide +kernel
set_option maxRecDepth 100000 in
theorem kx272 {l : Launch} {E : (Nat → Prop) → State → Prop} {ad : List Nat} {D : va_G} {gs : List Nat} {cy : Nat → ClassId} (h : fxX E D cy) : fx_Met l yX2_bitOf (.code yX2_bitOf cX2_bitOf 2 (some .int) :: wsL_law) ({ frames := 0, cells := 0, slots := 0, locals := 0 }) E (gs, TX, cy, fun _ => True) ad D classes kx272_c :=
  fx_sound (x := kx272_x) (tb := t_X2_bitOf) (an := kx272_a) (sp := kx272_s) (rk := 0) 11 h.1 (fun _ _ _ _ _ _ => trivial) (fun _ _ _ _ _ _ => trivial) (ht_tys cy) (by decide) rfl ⟨fx_an, (fx_ac fl_X2_37 (fx_an)), fx_an, fx_an, fx_an, fx_an⟩ d_X2_bitOf kx272_k
-- X2_bestTurn 4 11 i i ('c', 8)
def kx273_c : fx_C := ([.inr (.inr 5), .inr (.inr 12), .inl (0, 4095), .inl (0, 1)], [((1, 1), .inl (8, 8))], [(some (.inl (-2147483648, 2147483647)), [.inr (.inr 5), .inr (.inr 12), .inl (0, 4095), .inl (0, 1)], [])], [])
def kx273_a : List fx_N := [(9, [(6, .inl (0, 0)), (0, .inr (.inr 5)), (1, .inr (.inr 12)), (2, .inl (0, 4095)), (3, .inl (0, 1)), (4, .inl (0, 0)), (5, .inl (0, 0))], [((2, 1), .inl (8, 8))], [(0, 8)], [(0, 1), (1, 2), (2, 3), (3, 4)]), (9, [(6, .inl (1, 1)), (0, .inr (.inr 5)), (1, .inr (.inr 12)), (2, .inl (0, 4095)), (3, .inl (0, 1)), (4, .inl (0, 1)), (5, .inl (-2147483648, 2147483647))], [((2, 1), .inl (8, 8))], [(0, 7)], [(0, 1), (1, 2), (2, 3), (3, 4)]), (9, [(6, .inl (2, 2)), (0, .inr (.inr 5)), (1, .inr (.inr 12)), (2, .inl (0, 4095)), (3, .inl (0, 1)), (4, .inl (0, 1)), (5, .inl (-2147483648, 2147483647))], [((2, 1), .inl (8, 8))], [(0, 6)], [(0, 1), (1, 2), (2, 3), (3, 4)]), (9, [(6, .inl (3, 3)), (0, .inr (.inr 5)), (1, .inr (.inr 12)), (2, .inl (0, 4095)), (3, .inl (0, 1)), (4, .inl (0, 1)), (5, .inl (-2147483648, 2147483647))], [((2, 1), .inl (8, 8))], [(0, 5)], [(0, 1), (1, 2), (2, 3), (3, 4)]), (9, [(6, .inl (4, 4)), (0, .inr (.inr 5)), (1, .inr (.inr 12)), (2, .inl (0, 4095)), (3, .inl (0, 1)), (4, .inl (0, 1)), (5, .inl (-2147483648, 2147483647))], [((2, 1), .inl (8, 8))], [(0, 4)], [(0, 1), (1, 2), (2, 3), (3, 4)]), (9, [(6, .inl (5, 5)), (0, .inr (.inr 5)), (1, .inr (.inr 12)), (2, .inl (0, 4095)), (3, .inl (0, 1)), (4, .inl (0, 1)), (5, .inl (-2147483648, 2147483647))], [((2, 1), .inl (8, 8))], [(0, 3)], [(0, 1), (1, 2), (2, 3), (3, 4)]), (9, [(6, .inl (6, 6)), (0, .inr (.inr 5)), (1, .inr (.inr 12)), (2, .inl (0, 4095)), (3, .inl (0, 1)), (4, .inl (0, 1)), (5, .inl (-2147483648, 2147483647))], [((2, 1), .inl (8, 8))], [(0, 2)], [(0, 1), (1, 2), (2, 3), (3, 4)]), (9, [(6, .inl (7, 7)), (0, .inr (.inr 5)), (1, .inr (.inr 12)), (2, .inl (0, 4095)), (3, .inl (0, 1)), (4, .inl (0, 1)), (5, .inl (-2147483648, 2147483647))], [((2, 1), .inl (8, 8))], [(0, 1)], [(0, 1), (1, 2), (2, 3), (3, 4)]), (9, [(6, .inl (8, 8)), (0, .inr (.inr 5)), (1, .inr (.inr 12)), (2, .inl (0, 4095)), (3, .inl (0, 1)), (4, .inl (0, 1)), (5, .inl (-2147483648, 2147483647))], [((2, 1), .inl (8, 8))], [(0, 0)], [(0, 1), (1, 2), (2, 3), (3, 4)])]
def kx273_s : List fx_D := []
def kx273_x : fx_X := ([], [(11, 2, 0), (37, 1, 1)], [], [], [], [(22, 43, 1000, kx265_c), (22, 43, 1000, kx266_c), (22, 43, 1000, kx267_c), (22, 43, 1000, kx268_c), (22, 43, 1000, kx269_c), (22, 43, 1000, kx270_c), (22, 43, 1000, kx271_c), (22, 43, 1000, kx272_c)])
set_option maxRecDepth 100000 in
theorem kx273_k : fx_chk TX 9 kx273_c 0 kx273_x t_X2_bestTurn kx273_a kx273_s 38 = true := by decide +kernel
set_option maxRecDepth 100000 in
theorem kx273 {l : Launch} {E : (Nat → Prop) → State → Prop} {ad : List Nat} {D : va_G} {gs : List Nat} {cy : Nat → ClassId} (h : fxX E D cy) : fx_Met l yX2_bestTurn (.code yX2_bestTurn cX2_bestTurn 9 (some .int) :: wsL_law) ({ frames := 1, cells := 0, slots := 0, locals := 21 }) E (gs, TX, cy, fun _ => True) ad D classes kx273_c :=
  fx_sound (x := kx273_x) (tb := t_X2_bestTurn) (an := kx273_a) (sp := kx273_s) (rk := 0) 38 h.1 (fun _ _ _ _ _ _ => trivial) (fun _ _ _ _ _ _ => trivial) (ht_tys cy) (by decide) rfl ⟨fx_an, (fx_ac fl_X2_11 (fx_ac fl_X2_37 (fx_an))), fx_an, fx_an, fx_an, (fx_ac (ev_S (kx265 h) ⟨by decide, by decide⟩ iS_X2_bitOf g_X2_43) (fx_ac (ev_S (kx266 h) ⟨by decide, by decide⟩ iS_X2_bitOf g_X2_43) (fx_ac (ev_S (kx267 h) ⟨by decide, by decide⟩ iS_X2_bitOf g_X2_43) (fx_ac (ev_S (kx268 h) ⟨by decide, by decide⟩ iS_X2_bitOf g_X2_43) (fx_ac (ev_S (kx269 h) ⟨by decide, by decide⟩ iS_X2_bitOf g_X2_43) (fx_ac (ev_S (kx270 h) ⟨by decide, by decide⟩ iS_X2_bitOf g_X2_43) (fx_ac (ev_S (kx271 h) ⟨by decide, by decide⟩ iS_X2_bitOf g_X2_43) (fx_ac (ev_S (kx272 h) ⟨by decide, by decide⟩ iS_X2_bitOf g_X2_43) (fx_an)))))))))⟩ d_X2_bestTurn kx273_k
-- X2_bitOf 11 i ('c', 0) ('c', 9)
def kx274_c : fx_C := ([.inr (.inr 12), .inl (0, 0)], [((0, 1), .inl (9, 9))], [(some (.inl (256, 256)), [.inr (.inr 12), .inl (0, 0)], [])], [])
def kx274_a : List fx_N := []
def kx274_s : List fx_D := []
def kx274_x : fx_X := ([], [(37, 1, 1)], [], [], [], [])
set_option maxRecDepth 100000 in
theorem kx274_k : fx_chk TX 2 kx274_c 0 kx274_x t_X2_bitOf kx274_a kx274_s 11 = true := by decide +kernel
set_option maxRecDepth 100000 in
theorem kx274 {l : Launch} {E : (Nat → Prop) → State → Prop} {ad : List Nat} {D : va_G} {gs : List Nat} {cy : Nat → ClassId} (h : fxX E D cy) : fx_Met l yX2_bitOf (.code yX2_bitOf cX2_bitOf 2 (some .int) :: wsL_law) ({ frames := 0, cells := 0, slots := 0, locals := 0 }) E (gs, TX, cy, fun _ => True) ad D classes kx274_c :=
  fx_sound (x := kx274_x) (tb := t_X2_bitOf) (an := kx274_a) (sp := kx274_s) (rk := 0) 11 h.1 (fun _ _ _ _ _ _ => trivial) (fun _ _ _ _ _ _ => trivial) (ht_tys cy) (by decide) rfl ⟨fx_an, (fx_ac fl_X2_37 (fx_an)), fx_an, fx_an, fx_an, fx_an⟩ d_X2_bitOf kx274_k
-- X2_bitOf 11 i ('c', 1) ('c', 9)
def kx275_c : fx_C := ([.inr (.inr 12), .inl (1, 1)], [((0, 1), .inl (9, 9))], [(some (.inl (128, 128)), [.inr (.inr 12), .inl (1, 1)], [])], [])
def kx275_a : List fx_N := []
def kx275_s : List fx_D := []
def kx275_x : fx_X := ([], [(37, 1, 1)], [], [], [], [])
set_option maxRecDepth 100000 in
theorem kx275_k : fx_chk TX 2 kx275_c 0 kx275_x t_X2_bitOf kx275_a kx275_s 11 = true := by decide +kernel
set_option maxRecDepth 100000 in
theorem kx275 {l : Launch} {E : (Nat → Prop) → State → Prop} {ad : List Nat} {D : va_G} {gs : List Nat} {cy : Nat → ClassId} (h : fxX E D cy) : fx_Met l yX2_bitOf (.code yX2_bitOf cX2_bitOf 2 (some .int) :: wsL_law) ({ frames := 0, cells := 0, slots := 0, locals := 0 }) E (gs, TX, cy, fun _ => True) ad D classes kx275_c :=
  fx_sound (x := kx275_x) (tb := t_X2_bitOf) (an := kx275_a) (sp := kx275_s) (rk := 0) 11 h.1 (fun _ _ _ _ _ _ => trivial) (fun _ _ _ _ _ _ => trivial) (ht_tys cy) (by decide) rfl ⟨fx_an, (fx_ac fl_X2_37 (fx_an)), fx_an, fx_an, fx_an, fx_an⟩ d_X2_bitOf kx275_k
-- X2_bitOf 11 i ('c', 2) ('c', 9)
def kx276_c : fx_C := ([.inr (.inr 12), .inl (2, 2)], [((0, 1), .inl (9, 9))], [(some (.inl (64, 64)), [.inr (.inr 12), .inl (2, 2)], [])], [])
def kx276_a : List fx_N := []
def kx276_s : List fx_D := []
def kx276_x : fx_X := ([], [(37, 1, 1)], [], [], [], [])
set_option maxRecDepth 100000 in
theorem kx276_k : fx_chk TX 2 kx276_c 0 kx276_x t_X2_bitOf kx276_a kx276_s 11 = true := by decide +kernel
set_option maxRecDepth 100000 in
theorem kx276 {l : Launch} {E : (Nat → Prop) → State → Prop} {ad : List Nat} {D : va_G} {gs : List Nat} {cy : Nat → ClassId} (h : fxX E D cy) : fx_Met l yX2_bitOf (.code yX2_bitOf cX2_bitOf 2 (some .int) :: wsL_law) ({ frames := 0, cells := 0, slots := 0, locals := 0 }) E (gs, TX, cy, fun _ => True) ad D classes kx276_c :=
  fx_sound (x := kx276_x) (tb := t_X2_bitOf) (an := kx276_a) (sp := kx276_s) (rk := 0) 11 h.1 (fun _ _ _ _ _ _ => trivial) (fun _ _ _ _ _ _ => trivial) (ht_tys cy) (by decide) rfl ⟨fx_an, (fx_ac fl_X2_37 (fx_an)), fx_an, fx_an, fx_an, fx_an⟩ d_X2_bitOf kx276_k
-- X2_bitOf 11 i ('c', 3) ('c', 9)
def kx277_c : fx_C := ([.inr (.inr 12), .inl (3, 3)], [((0, 1), .inl (9, 9))], [(some (.inl (32, 32)), [.inr (.inr 12), .inl (3, 3)], [])], [])
def kx277_a : List fx_N := []
def kx277_s : List fx_D := []
def kx277_x : fx_X := ([], [(37, 1, 1)], [], [], [], [])
set_option maxRecDepth 100000 in
theorem kx277_k : fx_chk TX 2 kx277_c 0 kx277_x t_X2_bitOf kx277_a kx277_s 11 = true := by decide +kernel
set_option maxRecDepth 100000 in
theorem kx277 {l : Launch} {E : (Nat → Prop) → State → Prop} {ad : List Nat} {D : va_G} {gs : List Nat} {cy : Nat → ClassId} (h : fxX E D cy) : fx_Met l yX2_bitOf (.code yX2_bitOf cX2_bitOf 2 (some .int) :: wsL_law) ({ frames := 0, cells := 0, slots := 0, locals := 0 }) E (gs, TX, cy, fun _ => True) ad D classes kx277_c :=
  fx_sound (x := kx277_x) (tb := t_X2_bitOf) (an := kx277_a) (sp := kx277_s) (rk := 0) 11 h.1 (fun _ _ _ _ _ _ => trivial) (fun _ _ _ _ _ _ => trivial) (ht_tys cy) (by decide) rfl ⟨fx_an, (fx_ac fl_X2_37 (fx_an)), fx_an, fx_an, fx_an, fx_an⟩ d_X2_bitOf kx277_k
-- X2_bitOf 11 i ('c', 4) ('c', 9)
def kx278_c : fx_C := ([.inr (.inr 12), .inl (4, 4)], [((0, 1), .inl (9, 9))], [(some (.inl (16, 16)), [.inr (.inr 12), .inl (4, 4)], [])], [])
def kx278_a : List fx_N := []
def kx278_s : List fx_D := []
def kx278_x : fx_X := ([], [(37, 1, 1)], [], [], [], [])
set_option maxRecDepth 100000 in
theorem kx278_k : fx_chk TX 2 kx278_c 0 kx278_x t_X2_bitOf kx278_a kx278_s 11 = true := by decide +kernel
set_option maxRecDepth 100000 in
theorem kx278 {l : Launch} {E : (Nat → Prop) → State → Prop} {ad : List Nat} {D : va_G} {gs : List Nat} {cy : Nat → ClassId} (h : fxX E D cy) : fx_Met l yX2_bitOf (.code yX2_bitOf cX2_bitOf 2 (some .int) :: wsL_law) ({ frames := 0, cells := 0, slots := 0, locals := 0 }) E (gs, TX, cy, fun _ => True) ad D classes kx278_c :=
  fx_sound (x := kx278_x) (tb := t_X2_bitOf) (an := kx278_a) (sp := kx278_s) (rk := 0) 11 h.1 (fun _ _ _ _ _ _ => trivial) (fun _ _ _ _ _ _ => trivial) (ht_tys cy) (by decide) rfl ⟨fx_an, (fx_ac fl_X2_37 (fx_an)), fx_an, fx_an, fx_an, fx_an⟩ d_X2_bitOf kx278_k
-- X2_bitOf 11 i ('c', 5) ('c', 9)
def kx279_c : fx_C := ([.inr (.inr 12), .inl (5, 5)], [((0, 1), .inl (9, 9))], [(some (.inl (8, 8)), [.inr (.inr 12), .inl (5, 5)], [])], [])
def kx279_a : List fx_N := []
def kx279_s : List fx_D := []
def kx279_x : fx_X := ([], [(37, 1, 1)], [], [], [], [])
set_option maxRecDepth 100000 in
theorem kx279_k : fx_chk TX 2 kx279_c 0 kx279_x t_X2_bitOf kx279_a kx279_s 11 = true := by decide +kernel
set_option maxRecDepth 100000 in
theorem kx279 {l : Launch} {E : (Nat → Prop) → State → Prop} {ad : List Nat} {D : va_G} {gs : List Nat} {cy : Nat → ClassId} (h : fxX E D cy) : fx_Met l yX2_bitOf (.code yX2_bitOf cX2_bitOf 2 (some .int) :: wsL_law) ({ frames := 0, cells := 0, slots := 0, locals := 0 }) E (gs, TX, cy, fun _ => True) ad D classes kx279_c :=
  fx_sound (x := kx279_x) (tb := t_X2_bitOf) (an := kx279_a) (sp := kx279_s) (rk := 0) 11 h.1 (fun _ _ _ _ _ _ => trivial) (fun _ _ _ _ _ _ => trivial) (ht_tys cy) (by decide) rfl ⟨fx_an, (fx_ac fl_X2_37 (fx_an)), fx_an, fx_an, fx_an, fx_an⟩ d_X2_bitOf kx279_k
-- X2_bitOf 11 i ('c', 6) ('c', 9)
def kx280_c : fx_C := ([.inr (.inr 12), .inl (6, 6)], [((0, 1), .inl (9, 9))], [(some (.inl (4, 4)), [.inr (.inr 12), .inl (6, 6)], [])], [])
def kx280_a : List fx_N := []
def kx280_s : List fx_D := []
def kx280_x : fx_X := ([], [(37, 1, 1)], [], [], [], [])
set_option maxRecDepth 100000 in
theorem kx280_k : fx_chk TX 2 kx280_c 0 kx280_x t_X2_bitOf kx280_a kx280_s 11 = true := by decide +kernel
set_option maxRecDepth 100000 in
theorem kx280 {l : Launch} {E : (Nat → Prop) → State → Prop} {ad : List Nat} {D : va_G} {gs : List Nat} {cy : Nat → ClassId} (h : fxX E D cy) : fx_Met l yX2_bitOf (.code yX2_bitOf cX2_bitOf 2 (some .int) :: wsL_law) ({ frames := 0, cells := 0, slots := 0, locals := 0 }) E (gs, TX, cy, fun _ => True) ad D classes kx280_c :=
  fx_sound (x := kx280_x) (tb := t_X2_bitOf) (an := kx280_a) (sp := kx280_s) (rk := 0) 11 h.1 (fun _ _ _ _ _ _ => trivial) (fun _ _ _ _ _ _ => trivial) (ht_tys cy) (by decide) rfl ⟨fx_an, (fx_ac fl_X2_37 (fx_an)), fx_an, fx_an, fx_an, fx_an⟩ d_X2_bitOf kx280_k
-- X2_bitOf 11 i ('c', 7) ('c', 9)
def kx281_c : fx_C := ([.inr (.inr 12), .inl (7, 7)], [((0, 1), .inl (9, 9))], [(some (.inl (2, 2)), [.inr (.inr 12), .inl (7, 7)], [])], [])
def kx281_a : List fx_N := []
def kx281_s : List fx_D := []
def kx281_x : fx_X := ([], [(37, 1, 1)], [], [], [], [])
set_option maxRecDepth 100000 in
theorem kx281_k : fx_chk TX 2 kx281_c 0 kx281_x t_X2_bitOf kx281_a kx281_s 11 = true := by decide +kernel
set_option maxRecDepth 100000 in
theorem kx281 {l : Launch} {E : (Nat → Prop) → State → Prop} {ad : List Nat} {D : va_G} {gs : List Nat} {cy : Nat → ClassId} (h : fxX E D cy) : fx_Met l yX2_bitOf (.code yX2_bitOf cX2_bitOf 2 (some .int) :: wsL_law) ({ frames := 0, cells := 0, slots := 0, locals := 0 }) E (gs, TX, cy, fun _ => True) ad D classes kx281_c :=
  fx_sound (x := kx281_x) (tb := t_X2_bitOf) (an := kx281_a) (sp := kx281_s) (rk := 0) 11 h.1 (fun _ _ _ _ _ _ => trivial) (fun _ _ _ _ _ _ => trivial) (ht_tys cy) (by decide) rfl ⟨fx_an, (fx_ac fl_X2_37 (fx_an)), fx_an, fx_an, fx_an, fx_an⟩ d_X2_bitOf kx281_k
-- X2_bitOf 11 i ('c', 8) ('c', 9)
def kx282_c : fx_C := ([.inr (.inr 12), .inl (8, 8)], [((0, 1), .inl (9, 9))], [(some (.inl (1, 1)), [.inr (.inr 12), .inl (8, 8)], [])], [])
def kx282_a : List fx_N := []
def kx282_s : List fx_D := []
def kx282_x : fx_X := ([], [(37, 1, 1)], [], [], [], [])
set_option maxRecDepth 100000 in
theorem kx282_k : fx_chk TX 2 kx282_c 0 kx282_x t_X2_bitOf kx282_a kx282_s 11 = true := by decide +kernel
set_option maxRecDepth 100000 in
theorem kx282 {l : Launch} {E : (Nat → Prop) → State → Prop} {ad : List Nat} {D : va_G} {gs : List Nat} {cy : Nat → ClassId} (h : fxX E D cy) : fx_Met l yX2_bitOf (.code yX2_bitOf cX2_bitOf 2 (some .int) :: wsL_law) ({ frames := 0, cells := 0, slots := 0, locals := 0 }) E (gs, TX, cy, fun _ => True) ad D classes kx282_c :=
  fx_sound (x := kx282_x) (tb := t_X2_bitOf) (an := kx282_a) (sp := kx282_s) (rk := 0) 11 h.1 (fun _ _ _ _ _ _ => trivial) (fun _ _ _ _ _ _ => trivial) (ht_tys cy) (by decide) rfl ⟨fx_an, (fx_ac fl_X2_37 (fx_an)), fx_an, fx_an, fx_an, fx_an⟩ d_X2_bitOf kx282_k
