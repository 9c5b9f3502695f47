-- X2_bitOf 11 i ('c', 1) ('c', 2)
def kx233_c : fx_C := ([.inr (.inr 12), .inl (1, 1)], [((0, 1), .inl (2, 2))], [(some (.inl (1, 1)), [.inr (.inr 12), .inl (1, 1)], [])], [])
def kx233_a : List fx_N := []
def kx233_s : List fx_D := []
def kx233_x : fx_X := ([], [(37, 1, 1)], [], [], [], [])
set_option maxRecDepth 100000 in
theorem kx233_k : fx_chk TX 2 kx233_c 0 kx233_x t_X2_bitOf kx233_a kx233_s 11 = true := by decide +kernel
set_option maxRecDepth 100000 in
theorem kx233 {l : Launch} {E : (Nat → Prop) → State → Prop} {ad : List Nat} {D : va_G} {gs : List Nat} {cy : Nat → ClassId} (h : fxX E D cy) : fx_Met l yX2_bitOf (.code yX2_bitOf cX2_bitOf 2 (some .int) :: wsL_law) ({ frames := 0, cells := 0, slots := 0, locals := 0 }) E (gs, TX, cy, fun _ => True) ad D classes kx233_c :=
  fx_sound (x := kx233_x) (tb := t_X2_bitOf) (an := kx233_a) (sp := kx233_s) (rk := 0) 11 h.1 (fun _ _ _ _ _ _ => trivial) (fun _ _ _ _ _ _ => trivial) (ht_tys cy) (by decide) rfl ⟨fx_an, (fx_ac fl_X2_37 (fx_an)), fx_an, fx_an, fx_an, fx_an⟩ d_X2_bitOf kx233_k
-- X2_bestTurn 4 11 i i ('c', 2)
def kx234_c : fx_C := ([.inr (.inr 5), .inr (.inr 12), .inl (0, 4095), .inl (0, 1)], [((1, 1), .inl (2, 2))], [(some (.inl (-2147483648, 2147483647)), [.inr (.inr 5), .inr (.inr 12), .inl (0, 4095), .inl (0, 1)], [])], [])
def kx234_a : List fx_N := [(9, [(6, .inl (0, 0)), (0, .inr (.inr 5)), (1, .inr (.inr 12)), (2, .inl (0, 4095)), (3, .inl (0, 1)), (4, .inl (0, 0)), (5, .inl (0, 0))], [((2, 1), .inl (2, 2))], [(0, 2)], [(0, 1), (1, 2), (2, 3), (3, 4)]), (9, [(6, .inl (1, 1)), (0, .inr (.inr 5)), (1, .inr (.inr 12)), (2, .inl (0, 4095)), (3, .inl (0, 1)), (4, .inl (0, 1)), (5, .inl (-2147483648, 2147483647))], [((2, 1), .inl (2, 2))], [(0, 1)], [(0, 1), (1, 2), (2, 3), (3, 4)]), (9, [(6, .inl (2, 2)), (0, .inr (.inr 5)), (1, .inr (.inr 12)), (2, .inl (0, 4095)), (3, .inl (0, 1)), (4, .inl (0, 1)), (5, .inl (-2147483648, 2147483647))], [((2, 1), .inl (2, 2))], [(0, 0)], [(0, 1), (1, 2), (2, 3), (3, 4)])]
def kx234_s : List fx_D := []
def kx234_x : fx_X := ([], [(11, 2, 0), (37, 1, 1)], [], [], [], [(22, 43, 1000, kx232_c), (22, 43, 1000, kx233_c)])
set_option maxRecDepth 100000 in
theorem kx234_k : fx_chk TX 9 kx234_c 0 kx234_x t_X2_bestTurn kx234_a kx234_s 38 = true := by decide +kernel
set_option maxRecDepth 100000 in
theorem kx234 {l : Launch} {E : (Nat → Prop) → State → Prop} {ad : List Nat} {D : va_G} {gs : List Nat} {cy : Nat → ClassId} (h : fxX E D cy) : fx_Met l yX2_bestTurn (.code yX2_bestTurn cX2_bestTurn 9 (some .int) :: wsL_law) ({ frames := 1, cells := 0, slots := 0, locals := 21 }) E (gs, TX, cy, fun _ => True) ad D classes kx234_c :=
  fx_sound (x := kx234_x) (tb := t_X2_bestTurn) (an := kx234_a) (sp := kx234_s) (rk := 0) 38 h.1 (fun _ _ _ _ _ _ => trivial) (fun _ _ _ _ _ _ => trivial) (ht_tys cy) (by decide) rfl ⟨fx_an, (fx_ac fl_X2_11 (fx_ac fl_X2_37 (fx_an))), fx_an, fx_an, fx_an, (fx_ac (ev_S (kx232 h) ⟨by decide, by decide⟩ iS_X2_bitOf g_X2_43) (fx_ac (ev_S (kx233 h) ⟨by decide, by decide⟩ iS_X2_bitOf g_X2_43) (fx_an)))⟩ d_X2_bestTurn kx234_k
-- X2_bitOf 11 i ('c', 0) ('c', 3)
def kx235_c : fx_C := ([.inr (.inr 12), .inl (0, 0)], [((0, 1), .inl (3, 3))], [(some (.inl (4, 4)), [.inr (.inr 12), .inl (0, 0)], [])], [])
def kx235_a : List fx_N := []
def kx235_s : List fx_D := []
def kx235_x : fx_X := ([], [(37, 1, 1)], [], [], [], [])
set_option maxRecDepth 100000 in
theorem kx235_k : fx_chk TX 2 kx235_c 0 kx235_x t_X2_bitOf kx235_a kx235_s 11 = true := by decide +kernel
set_option maxRecDepth 100000 in
theorem kx235 {l : Launch} {E : (Nat → Prop) → State → Prop} {ad : List Nat} {D : va_G} {gs : List Nat} {cy : Nat → ClassId} (h : fxX E D cy) : fx_Met l yX2_bitOf (.code yX2_bitOf cX2_bitOf 2 (some .int) :: wsL_law) ({ frames := 0, cells := 0, slots := 0, locals := 0 }) E (gs, TX, cy, fun _ => True) ad D classes kx235_c :=
  fx_sound (x := kx235_x) (tb := t_X2_bitOf) (an := kx235_a) (sp := kx235_s) (rk := 0) 11 h.1 (fun _ _ _ _ _ _ => trivial) (fun _ _ _ _ _ _ => trivial) (ht_tys cy) (by decide) rfl ⟨fx_an, (fx_ac fl_X2_37 (fx_an)), fx_an, fx_an, fx_an, fx_an⟩ d_X2_bitOf kx235_k
-- X2_bitOf 11 i ('c', 1) ('c', 3)
def kx236_c : fx_C := ([.inr (.inr 12), .inl (1, 1)], [((0, 1), .inl (3, 3))], [(some (.inl (2, 2)), [.inr (.inr 12), .inl (1, 1)], [])], [])
def kx236_a : List fx_N := []
def kx236_s : List fx_D := []
def kx236_x : fx_X := ([], [(37, 1, 1)], [], [], [], [])
set_option maxRecDepth 100000 in
theorem kx236_k : fx_chk TX 2 kx236_c 0 kx236_x t_X2_bitOf kx236_a kx236_s 11 = true := by decide +kernel
set_option maxRecDepth 100000 in
theorem kx236 {l : Launch} {E : (Nat → Prop) → State → Prop} {ad : List Nat} {D : va_G} {gs : List Nat} {cy : Nat → ClassId} (h : fxX E D cy) : fx_Met l yX2_bitOf (.code yX2_bitOf cX2_bitOf 2 (some .int) :: wsL_law) ({ frames := 0, cells := 0, slots := 0, locals := 0 }) E (gs, TX, cy, fun _ => True) ad D classes kx236_c :=
  fx_sound (x := kx236_x) (tb := t_X2_bitOf) (an := kx236_a) (sp := kx236_s) (rk := 0) 11 h.1 (fun _ _ _ _ _ _ => trivial) (fun _ _ _ _ _ _ => trivial) (ht_tys cy) (by decide) rfl ⟨fx_an, (fx_ac fl_X2_37 (fx_an)), fx_an, fx_an, fx_an, fx_an⟩ d_X2_bitOf kx236_k
-- X2_bitOf 11 i ('c', 2) ('c', 3)
def kx237_c : fx_C := ([.inr (.inr 12), .inl (2, 2)], [((0, 1), .inl (3, 3))], [(some (.inl (1, 1)), [.inr (.inr 12), .inl (2, 2)], [])], [])
def kx237_a : List fx_N := []
def kx237_s : List fx_D := []
def kx237_x : fx_X := ([], [(37, 1, 1)], [], [], [], [])
set_option maxRecDepth 100000 in
theorem kx237_k : fx_chk TX 2 kx237_c 0 kx237_x t_X2_bitOf kx237_a kx237_s 11 = true := by decide +kernel
set_option maxRecDepth 100000 in
theorem kx237 {l : Launch} {E : (Nat → Prop) → State → Prop} {ad : List Nat} {D : va_G} {gs : List Nat} {cy : Nat → ClassId} (h : fxX E D cy) : fx_Met l yX2_bitOf (.code yX2_bitOf cX2_bitOf 2 (some .int) :: wsL_law) ({ frames := 0, cells := 0, slots := 0, locals := 0 }) E (gs, TX, cy, fun _ => True) ad D classes kx237_c :=
  fx_sound (x := kx237_x) (tb := t_X2_bitOf) (an := kx237_a) (sp := kx237_s) (rk := 0) 11 h.1 (fun _ _ _ _ _ _ => trivial) (fun _ _ _ _ _ _ => trivial) (ht_tys cy) (by decide) rfl ⟨fx_an, (fx_ac fl_X2_37 (fx_an)), fx_an, fx_an, fx_an, fx_an⟩ d_X2_bitOf kx237_k
-- X2_bestTurn 4 11 i i ('c', 3)
def kx238_c : fx_C := ([.inr (.inr 5), .inr (.inr 12), .inl (0, 4095), .inl (0, 1)], [((1, 1), .inl (3, 3))], [(some (.inl (-2147483648, 2147483647)), [.inr (.inr 5), .inr (.inr 12), .inl (0, 4095), .inl (0, 1)], [])], [])
def kx238_a : List fx_N := [(9, [(6, .inl (0, 0)), (0, .inr (.inr 5)), (1, .inr (.inr 12)), (2, .inl (0, 4095)), (3, .inl (0, 1)), (4, .inl (0, 0)), (5, .inl (0, 0))], [((2, 1), .inl (3, 3))], [(0, 3)], [(0, 1), (1, 2), (2, 3), (3, 4)]), (9, [(6, .inl (1, 1)), (0, .inr (.inr 5)), (1, .inr (.inr 12)), (2, .inl (0, 4095)), (3, .inl (0, 1)), (4, .inl (0, 1)), (5, .inl (-2147483648, 2147483647))], [((2, 1), .inl (3, 3))], [(0, 2)], [(0, 1), (1, 2), (2, 3), (3, 4)]), (9, [(6, .inl (2, 2)), (0, .inr (.inr 5)), (1, .inr (.inr 12)), (2, .inl (0, 4095)), (3, .inl (0, 1)), (4, .inl (0, 1)), (5, .inl (-2147483648, 2147483647))], [((2, 1), .inl (3, 3))], [(0, 1)], [(0, 1), (1, 2), (2, 3), (3, 4)]), (9, [(6, .inl (3, 3)), (0, .inr (.inr 5)), (1, .inr (.inr 12)), (2, .inl (0, 4095)), (3, .inl (0, 1)), (4, .inl (0, 1)), (5, .inl (-2147483648, 2147483647))], [((2, 1), .inl (3, 3))], [(0, 0)], [(0, 1), (1, 2), (2, 3), (3, 4)])]
def kx238_s : List fx_D := []
def kx238_x : fx_X := ([], [(11, 2, 0), (37, 1, 1)], [], [], [], [(22, 43, 1000, kx235_c), (22, 43, 1000, kx236_c), (22, 43, 1000, kx237_c)])
set_option maxRecDepth 100000 in
theorem kx238_k : fx_chk TX 9 kx238_c 0 kx238_x t_X2_bestTurn kx238_a kx238_s 38 = true := by decide +kernel
set_option maxRecDepth 100000 in
theorem kx238 {l : Launch} {E : (Nat → Prop) → State → Prop} {ad : List Nat} {D : va_G} {gs : List Nat} {cy : Nat → ClassId} (h : fxX E D cy) : fx_Met l yX2_bestTurn (.code yX2_bestTurn cX2_bestTurn 9 (some .int) :: wsL_law) ({ frames := 1, cells := 0, slots := 0, locals := 21 }) E (gs, TX, cy, fun _ => True) ad D classes kx238_c :=
  fx_sound (x := kx238_x) (tb := t_X2_bestTurn) (an := kx238_a) (sp := kx238_s) (rk := 0) 38 h.1 (fun _ _ _ _ _ _ => trivial) (fun _ _ _ _ _ _ => trivial) (ht_tys cy) (by decide) rfl ⟨fx_an, (fx_ac fl_X2_11 (fx_ac fl_X2_37 (fx_an))), fx_an, fx_an, fx_an, (fx_ac (ev_S (kx235 h) ⟨by decide, by decide⟩ iS_X2_bitOf g_X2_43) (fx_ac (ev_S (kx236 h) ⟨by decide, by decide⟩ iS_X2_bitOf g_X2_43) (fx_ac (ev_S (kx237 h) ⟨by decide, by decide⟩ iS_X2_bitOf g_X2_43) (fx_an))))⟩ d_X2_bestTurn kx238_k
-- X2_bitOf 11 i ('c', 0) ('c', 4)
def kx239_c : fx_C := ([.inr (.inr 12), .inl (0, 0)], [((0, 1), .inl (4, 4))], [(some (.inl (8, 8)), [.inr (.inr 12), .inl (0, 0)], [])], [])
def kx239_a : List fx_N := []
def kx239_s : List fx_D := []
def kx239_x : fx_X := ([], [(37, 1, 1)], [], [], [], [])
set_option maxRecDepth 100000 in
theorem kx239_k : fx_chk TX 2 kx239_c 0 kx239_x t_X2_bitOf kx239_a kx239_s 11 = true := by decide +kernel
set_option maxRecDepth 100000 in
theorem kx239 {l : Launch} {E : (Nat → Prop) → State → Prop} {ad : List Nat} {D : va_G} {gs : List Nat} {cy : Nat → ClassId} (h : fxX E D cy) : fx_Met l yX2_bitOf (.code yX2_bitOf cX2_bitOf 2 (some .int) :: wsL_law) ({ frames := 0, cells := 0, slots := 0, locals := 0 }) E (gs, TX, cy, fun _ => True) ad D classes kx239_c :=
  fx_sound (x := kx239_x) (tb := t_X2_bitOf) (an := kx239_a) (sp := kx239_s) (rk := 0) 11 h.1 (fun _ _ _ _ _ _ => trivial) (fun _ _ _ _ _ _ => trivial) (ht_tys cy) (by decide) rfl ⟨fx_an, (fx_ac fl_X2_37 (fx_an)), fx_an, fx_an, fx_an, fx_an⟩ d_X2_bitOf kx239_k
-- X2_bitOf 11 i ('c', 1) ('c', 4)
def kx240_c : fx_C := ([.inr (.inr 12), .inl (1, 1)], [((0, 1), .inl (4, 4))], [(some (.inl (4, 4)), [.inr (.inr 12), .inl (1, 1)], [])], [])
def kx240_a : List fx_N := []
def kx240_s : List fx_D := []
def kx240_x : fx_X := ([], [(37, 1, 1)], [], [], [], [])
set_option maxRecDepth 100000 in
theorem kx240_k : fx_chk TX 2 kx240_c 0 kx240_x t_X2_bitOf kx240_a kx240_s 11 = true := by decide +kernel
set_option maxRecDepth 100000 in
theorem kx240 {l : Launch} {E : (Nat → Prop) → State → Prop} {ad : List Nat} {D : va_G} {gs : List Nat} {cy : Nat → ClassId} (h : fxX E D cy) : fx_Met l yX2_bitOf (.code yX2_bitOf cX2_bitOf 2 (some .int) :: wsL_law) ({ frames := 0, cells := 0, slots := 0, locals := 0 }) E (gs, TX, cy, fun _ => True) ad D classes kx240_c :=
  fx_sound (x := kx240_x) (tb := t_X2_bitOf) (an := kx240_a) (sp := kx240_s) (rk := 0) 11 h.1 (fun _ _ _ _ _ _ => trivial) (fun _ _ _ _ _ _ => trivial) (ht_tys cy) (by decide) rfl ⟨fx_an, (fx_ac fl_X2_37 (fx_an)), fx_an, fx_an, fx_an, fx_an⟩ d_X2_bitOf kx240_k
-- X2_bitOf 11 i ('c', 2) ('c', 4)
def kx241_c : fx_C := ([.inr (.inr 12), .inl (2, 2)], [((0, 1), .inl (4, 4))], [(some (.inl (2, 2)), [.inr (.inr 12), .inl (2, 2)], [])], [])
def kx241_a : List fx_N := []
def kx241_s : List fx_D := []
def kx241_x : fx_X := ([], [(37, 1, 1)], [], [], [], [])
set_option maxRecDepth 100000 in
theorem kx241_k : fx_chk TX 2 kx241_c 0 kx241_x t_X2_bitOf kx241_a kx241_s 11 = true := by decide +kernel
set_option maxRecDepth 100000 in
theorem kx241 {l : Launch} {E : (Nat → Prop) → State → Prop} {ad : List Nat} {D : va_G} {gs : List Nat} {cy : Nat → ClassId} (h : fxX E D cy) : fx_Met l yX2_bitOf (.code yX2_bitOf cX2_bitOf 2 (some .int) :: wsL_law) ({ frames := 0, cells := 0, slots := 0, locals := 0 }) E (gs, TX, cy, fun _ => True) ad D classes kx241_c :=
  fx_sound (x := kx241_x) (tb := t_X2_bitOf) (an := kx241_a) (sp := kx241_s) (rk := 0) 11 h.1 (fun _ _ _ _ _ _ => trivial) (fun _ _ _ _ _ _ => trivial) (ht_tys cy) (by decide) rfl ⟨fx_an, (fx_ac fl_X2_37 (fx_an)), fx_an, fx_an, fx_an, fx_an⟩ d_X2_bitOf kx241_k
-- X2_bitOf 11 i ('c', 3) ('c', 4)
def kx242_c : fx_C := ([.inr (.inr 12), .inl (3, 3)], [((0, 1), .inl (4, 4))], [(some (.inl (1, 1)), [.inr (.inr 12), .inl (3, 3)], [])], [])
def kx242_a : List fx_N := []
def kx242_s : List fx_D := []
def kx242_x : fx_X := ([], [(37, 1, 1)], [], [], [], [])
set_option maxRecDepth 100000 in
theorem kx242_k : fx_chk TX 2 kx242_c 0 kx242_x t_X2_bitOf kx242_a kx242_s 11 = true := by decide +kernel
set_option maxRecDepth 100000 in
theorem kx242 {l : Launch} {E : (Nat → Prop) → State → Prop} {ad : List Nat} {D : va_G} {gs : List Nat} {cy : Nat → ClassId} (h : fxX E D cy) : fx_Met l yX2_bitOf (.code yX2_bitOf cX2_bitOf 2 (some .int) :: wsL_law) ({ frames := 0, cells := 0, slots := 0, locals := 0 }) E (gs, TX, cy, fun _ => True) ad D classes kx242_c :=
  fx_sound (x := kx242_x) (tb := t_X2_bitOf) (an := kx242_a) (sp := kx242_s) (rk := 0) 11 h.1 (fun _ _ _ _ _ _ => trivial) (fun _ _ _ _ _ _ => trivial) (ht_tys cy) (by decide) rfl ⟨fx_an, (fx_ac fl_X2_37 (fx_an)), fx_an, fx_an, fx_an, fx_an⟩ d_X2_bitOf kx242_k
-- X2_bestTurn 4 11 i i ('c', 4)
def kx243_c : fx_C := ([.inr (.inr 5), .inr (.inr 12), .inl (0, 4095), .inl (0, 1)], [((1, 1), .inl (4, 4))], [(some (.inl (-2147483648, 2147483647)), [.inr (.inr 5), .inr (.inr 12), .inl (0, 4095), .inl (0, 1)], [])], [])
def kx243_a : List fx_N := [(9, [(6, .inl (0, 0)), (0, .inr (.inr 5)), (1, .inr (.inr 12)), (2, .inl (0, 4095)), (3, .inl (0, 1)), (4, .inl (0, 0)), (5, .inl (0, 0))], [((2, 1), .inl (4, 4))], [(0, 4)], [(0, 1), (1, 2), (2, 3), (3, 4)]), (9, [(6, .inl (1, 1)), (0, .inr (.inr 5)), (1, .inr (.inr 12)), (2, .inl (0, 4095)), (3, .inl (0, 1)), (4, .inl (0, 1)), (5, .inl (-2147483648, 2147483647))], [((2, 1), .inl (4, 4))], [(0, 3)], [(0, 1), (1, 2), (2, 3), (3, 4)]), (9, [(6, .inl (2, 2)), (0, .inr (.inr 5)), (1, .inr (.inr 12)), (2, .inl (0, 4095)), (3, .inl (0, 1)), (4, .inl (0, 1)), (5, .inl (-2147483648, 2147483647))], [((2, 1), .inl (4, 4))], [(0, 2)], [(0, 1), (1, 2), (2, 3), (3, 4)]), (9, [(6, .inl (3, 3)), (0, .inr (.inr 5)), (1, .inr (.inr 12)), (2, .inl (0, 4095)), (3, .inl (0, 1)), (4, .inl (0, 1)), (5, .inl (-2147483648, 2147483647))], [((2, 1), .inl (4, 4))], [(0, 1)], [(0, 1), (1, 2), (2, 3), (3, 4)]), (9, [(6, .inl (4, 4)), (0, .inr (.inr 5)), (1, .inr (.inr 12)), (2, .inl (0, 4095)), (3, .inl (0, 1)), (4, .inl (0, 1)), (5, .inl (-2147483648, 2147483647))], [((2, 1), .inl (4, 4))], [(0, 0)], [(0, 1), (1, 2), (2, 3), (3, 4)])]
def kx243_s : List fx_D := []
def kx243_x : fx_X := ([], [(11, 2, 0), (37, 1, 1)], [], [], [], [(22, 43, 1000, kx239_c), (22, 43, 1000, kx240_c), (22, 43, 1000, kx241_c), (22, 43, 1000, kx242_c)])
set_option maxRecDepth 100000 in
theorem kx243_k : fx_chk TX 9 kx243_c 0 kx243_x t_X2_bestTurn kx243_a kx243_s 38 = true := by decide +kernel
set_option maxRecDepth 100000 in
theorem kx243 {l : Launch} {E : (Nat → Prop) → State → Prop} {ad : List Nat} {D : va_G} {gs : List Nat} {cy : Nat → ClassId} (h : fxX E D cy) : fx_Met l yX2_bestTurn (.code yX2_bestTurn cX2_bestTurn 9 (some .int) :: wsL_law) ({ frames := 1, cells := 0, slots := 0, locals := 21 }) E (gs, TX, cy, fun _ => True) ad D classes kx243_c :=
  fx_sound (x := kx243_x) (tb := t_X2_bestTurn) (an := kx243_a) (sp := kx243_s) (rk := 0) 38 h.1 (fun _ _ _ _ _ _ => trivial) (fun _ _ _ _ _ _ => trivial) (ht_tys cy) (by decide) rfl ⟨fx_an, (fx_ac fl_X2_11 (fx_ac fl_X2_37 (fx_an))), fx_an, fx_an, fx_an, (fx_ac (ev_S (kx239 h) ⟨by decide, by decide⟩ iS_X2_bitOf g_X2_43) (fx_ac (ev_S (kx240 h) ⟨by decide, by decide⟩ iS_X2_bitOf g_X2_43) (fx_ac (ev_S (kx241 h) ⟨by decide, by decide⟩ iS_X2_bitOf g_X2_43) (fx_ac (ev_S (kx242 h) ⟨by decide, by decide⟩ iS_X2_bitOf g_X2_43) (fx_an)))))⟩ d_X2_bestTurn kx243_k
-- X2_bitOf 11 i ('c', 0) ('c', 5)
def kx244_c : fx_C := ([.inr (.inr 12), .inl (0, 0)], [((0, 1), .inl (5, 5))], [(some (.inl (16, 16)), [.inr (.inr 12), .inl (0, 0)], [])], [])
def kx244_a : List fx_N := []
def kx244_s : List fx_D := []
def kx244_x : fx_X := ([], [(37, 1, 1)], [], [], [], [])
set_option maxRecDepth 100000 in
theorem kx244_k : fx_chk TX 2 kx244_c 0 kx244_x t_X2_bitOf kx244_a kx244_s 11 = true := by decide +kernel
set_option maxRecDepth 100000 in
theorem kx244 {l : Launch} {E : (Nat → Prop) → State → Prop} {ad : List Nat} {D : va_G} {gs : List Nat} {cy : Nat → ClassId} (h : fxX E D cy) : fx_Met l yX2_bitOf (.code yX2_bitOf cX2_bitOf 2 (some .int) :: wsL_law) ({ frames := 0, cells := 0, slots := 0, locals := 0 }) E (gs, TX, cy, fun _ => True) ad D classes kx244_c :=
  fx_sound (x := kx244_x) (tb := t_X2_bitOf) (an := kx244_a) (sp := kx244_s) (rk := 0) 11 h.1 (fun _ _ _ _ _ _ => trivial) (fun _ _ _ _ _ _ => trivial) (ht_tys cy) (by decide) rfl ⟨fx_an, (fx_ac fl_X2_37 (fx_an)), fx_an, fx_an, fx_an, fx_an⟩ d_X2_bitOf kx244_k
-- X2_bitOf 11 i ('c', 1) ('c', 5)
def kx245_c : fx_C := ([.inr (.inr 12), .inl (1, 1)], [((0, 1), .inl (5, 5))], [(some (.inl (8, 8)), [.inr (.inr 12), .inl (1, 1)], [])], [])
def kx245_a : List fx_N := []
def kx245_s : List fx_D := []
def kx245_x : fx_X := ([], [(37, 1, 1)], [], [], [], [])
set_option maxRecDepth 100000 in
theorem kx245_k : fx_chk TX 2 kx245_c 0 kx245_x t_X2_bitOf kx245_a kx245_s 11 = true := by decide +kernel
set_option maxRecDepth 100000 in
theorem kx245 {l : Launch} {E : (Nat → Prop) → State → Prop} {ad : List Nat} {D : va_G} {gs : List Nat} {cy : Nat → ClassId} (h : fxX E D cy) : fx_Met l yX2_bitOf (.code yX2_bitOf cX2_bitOf 2 (some .int) :: wsL_law) ({ frames := 0, cells := 0, slots := 0, locals := 0 }) E (gs, TX, cy, fun _ => True) ad D classes kx245_c :=
  fx_sound (x := kx245_x) (tb := t_X2_bitOf) (an := kx245_a) (sp := kx245_s) (rk := 0) 11 h.1 (fun _ _ _ _ _ _ => trivial) (fun _ _ _ _ _ _ => trivial) (ht_tys cy) (by decide) rfl ⟨fx_an, (fx_ac fl_X2_37 (fx_an)), fx_an, fx_an, fx_an, fx_an⟩ d_X2_bitOf kx245_k
-- X2_bitOf 11 i ('c', 2) ('c', 5)
def kx246_c : fx_C := ([.inr (.inr 12), .inl (2, 2)], [((0, 1), .inl (5, 5))], [(some (.inl (4, 4)), [.inr (.inr 12), .inl (2, 2)], [])], [])
def kx246_a : List fx_N := []
def kx246_s : List fx_D := []
def kx246_x : fx_X := ([], [(37, 1, 1)], [], [], [], [])
set_option maxRecDepth 100000 in
theorem kx246_k : fx_chk TX 2 kx246_c 0 kx246_x t_X2_bitOf kx246_a kx246_s 11 = true := by decide +kernel
set_option maxRecDepth 100000 in
theorem kx246 {l : Launch} {E : (Nat → Prop) → State → Prop} {ad : List Nat} {D : va_G} {gs : List Nat} {cy : Nat → ClassId} (h : fxX E D cy) : fx_Met l yX2_bitOf (.code yX2_bitOf cX2_bitOf 2 (some .int) :: wsL_law) ({ frames := 0, cells := 0, slots := 0, locals := 0 }) E (gs, TX, cy, fun _ => True) ad D classes kx246_c :=
  fx_sound (x := kx246_x) (tb := t_X2_bitOf) (an := kx246_a) (sp := kx246_s) (rk := 0) 11 h.1 (fun _ _ _ _ _ _ => trivial) (fun _ _ _ _ _ _ => trivial) (ht_tys cy) (by decide) rfl ⟨fx_an, (fx_ac fl_X2_37 (fx_an)), fx_an, fx_an, fx_an, fx_an⟩ d_X2_bitOf kx246_k
-- X2_bitOf 11 i ('c', 3) ('c', 5)
def kx247_c : fx_C := ([.inr (.inr 12), .inl (3, 3)], [((0, 1), .inl (5, 5))], [(some (.inl (2, 2)), [.inr (.inr 12), .inl (3, 3)], [])], [])
def kx247_a : List fx_N := []
def kx247_s : List fx_D := []
def kx247_x : fx_X := ([], [(37, 1, 1)], [], [], [], [])
set_option maxRecDepth 100000 in
theorem kx247_k : fx_chk TX 2 kx247_c 0 kx247_x t_X2_bitOf kx247_a kx247_s 11 = true := by decide +kernel
set_option maxRecDepth 100000 in
theorem kx247 {l : Launch} {E : (Nat → Prop) → State → Prop} {ad : List Nat} {D : va_G} {gs : List Nat} {cy : Nat → ClassId} (h : fxX E D cy) : fx_Met l yX2_bitOf (.code yX2_bitOf cX2_bitOf 2 (some .int) :: wsL_law) ({ frames := 0, cells := 0, slots := 0, locals := 0 }) E (gs, TX, cy, fun _ => True) ad D classes kx247_c :=
  fx_sound (x := kx247_x) (tb := t_X2_bitOf) (an := kx247_a) (sp := kx247_s) (rk := 0) 11 h.1 (fun _ _ _ _ _ _ => trivial) (fun _ _ _ _ _ _ => trivial) (ht_tys cy) (by decide) rfl ⟨fx_an, (fx_ac fl_X2_37 (fx_an)), fx_an, fx_an, fx_an, fx_an⟩ d_X2_bitOf kx247_k
-- X2_bitOf 11 i ('c', 4) ('c', 5)
def kx248_c : fx_C := ([.inr (.inr 12), .inl (4, 4)], [((0, 1), .inl (5, 5))], [(some (.inl (1, 1)), [.inr (.inr 12), .inl (4, 4)], [])], [])
def kx248_a : List fx_N := []
def kx248_s : List fx_D := []
def kx248_x : fx_X := ([], [(37, 1, 1)], [], [], [], [])
set_option maxRecDepth 100000 in
theorem kx248_k : fx_chk TX 2 kx248_c 0 kx248_x t_X2_bitOf kx248_a kx248_s 11 = true := by decide +kernel
set_option maxRecDepth 100000 in
theorem kx248 {l : Launch} {E : (Nat → Prop) → State → Prop} {ad : List Nat} {D : va_G} {gs : List Nat} {cy : Nat → ClassId} (h : fxX E D cy) : fx_Met l yX2_bitOf (.code yX2_bitOf cX2_bitOf 2 (some .int) :: wsL_law) ({ frames := 0, cells := 0, slots := 0, locals := 0 }) E (gs, TX, cy, fun _ => True) ad D classes kx248_c :=
  fx_sound (x := kx248_x) (tb := t_X2_bitOf) (an := kx248_a) (sp := kx248_s) (rk := 0) 11 h.1 (fun _ _ _ _ _ _ => trivial) (fun _ _ _ _ _ _ => trivial) (ht_tys cy) (by decide) rfl ⟨fx_an, (fx_ac fl_X2_37 (fx_an)), fx_an, fx_an, fx_an, fx_an⟩ d_X2_bitOf kx248_k
-- X2_bestTurn 4 11 i i ('c', 5)
def kx249_c : fx_C := ([.inr (.inr 5), .inr (.inr 12), .inl (0, 4095), .inl (0, 1)], [((1, 1), .inl (5, 5))], [(some (.inl (-2147483648, 2147483647)), [.inr (.inr 5), .inr (.inr 12), .inl (0, 4095), .inl (0, 1)], [])], [])
def kx249_a : List fx_N := [(9, [(6, .inl (0, 0)), (0, .inr (.inr 5)), (1, .inr (.inr 12)), (2, .inl (0, 4095)), (3, .inl (0, 1)), (4, .inl (0, 0)), (5, .inl (0, 0))], [((2, 1), .inl (5, 5))], [(0, 5)], [(0, 1), (1, 2), (2, 3), (3, 4)]), (9, [(6, .inl (1, 1)), (0, .inr (.inr 5)), (1, .inr (.inr 12)), (2, .inl (0, 4095)), (3, .inl (0, 1)), (4, .inl (0, 1)), (5, .inl (-2147483648, 2147483647))], [((2, 1), .inl (5, 5))], [(0, 4)], [(0, 1), (1, 2), (2, 3), (3, 4)]), (9, [(6, .inl (2, 2)), (0, .inr (.inr 5)), (1, .inr (.inr 12)), (2, .inl (0, 4095)), (3, .inl (0, 1)), (4, .inl (0, 1)), (5, .inl (-2147483648, 2147483647))], [((2, 1), .inl (5, 5))], [(0, 3)], [(0, 1), (1, 2), (2, 3), (3, 4)]), (9, [(6, .inl (3, 3)), (0, .inr (.inr 5)), (1, .inr (.inr 12)), (2, .inl (0, 4095)), (3, .inl (0, 1)), (4, .inl (0, 1)), (5, .inl (-2147483648, 2147483647))], [((2, 1), .inl (5, 5))], [(0, 2)], [(0, 1), (1, 2), (2, 3), (3, 4)]), (9, [(6, .inl (4, 4)), (0, .inr (.inr 5)), (1, .inr (.inr 12)), (2, .inl (0, 4095)), (3, .inl (0, 1)), (4, .inl (0, 1)), (5, .inl (-2147483648, 2147483647))], [((2, 1), .inl (5, 5))], [(0, 1)], [(0, 1), (1, 2), (2, 3), (3, 4)]), (9, [(6, .inl (5, 5)), (0, .inr (.inr 5)), (1, .inr (.inr 12)), (2, .inl (0, 4095)), (3, .inl (0, 1)), (4, .inl (0, 1)), (5, .inl (-2147483648, 2147483647))], [((2, 1), .inl (5, 5))], [(0, 0)], [(0, 1), (1, 2), (2, 3), (3, 4)])]
def kx249_s : List fx_D := []
def kx249_x : fx_X := ([], [(11, 2, 0), (37, 1, 1)], [], [], [], [(22, 43, 1000, kx244_c), (22, 43, 1000, kx245_c), (22, 43, 1000, kx246_c), (22, 43, 1000, kx247_c), (22, 43, 1000, kx248_c)])
set_option maxRecDepth 100000 in
theorem kx249_k : fx_chk TX 9 kx249_c 0 kx249_x t_X2_bestTurn kx249_a kx249_s 38 = true := by decide +kernel
set_option maxRecDepth 100000 in
theorem kx249 {l : Launch} {E : (Nat → Prop) → State → Prop} {ad : List Nat} {D : va_G} {gs : List Nat} {cy : Nat → ClassId} (h : fxX E D cy) : fx_Met l yX2_bestTurn (.code yX2_bestTurn cX2_bestTurn 9 (some .int) :: wsL_law) ({ frames := 1, cells := 0, slots := 0, locals := 21 }) E (gs, TX, cy, fun _ => True) ad D classes kx249_c :=
  fx_sound (x := kx249_x) (tb := t_X2_bestTurn) (an := kx249_a) (sp := kx249_s) (rk := 0) 38 h.1 (fun _ _ _ _ _ _ => trivial) (fun _ _ _ _ _ _ => trivial) (ht_tys cy) (by decide) rfl ⟨fx_an, (fx_ac fl_X2_11 (fx_ac fl_X2_37 (fx_an))), fx_an, fx_an, fx_an, (fx_ac (ev_S (kx244 h) ⟨by decide, by decide⟩ iS_X2_bitOf g_X2_43) (fx_ac (ev_S (kx245 h) ⟨by decide, by decide⟩ iS_X2_bitOf g_X2_43) (fx_ac (ev_S (kx246 h) ⟨by decide, by decide⟩ iS_X2_bitOf g_X2_43) (fx_ac (ev_S (kx247 h) ⟨by decide, by decide⟩ iS_X2_bitOf g_X2_43) (fx_ac (ev_S (kx248 h) ⟨by decide, by decide⟩ iS_X2_bitOf g_X2_43) (fx_an))))))⟩ d_X2_bestTurn kx249_k
-- X2_bitOf 11 i ('c', 0) ('c', 6)
def kx250_c : fx_C := ([.inr (.inr 12), .inl (0, 0)], [((0, 1), .inl (6, 6))], [(some (.inl (32, 32)), [.inr (.inr 12), .inl (0, 0)], [])], [])
def kx250_a : List fx_N := []
def kx250_s : List fx_D := []
def kx250_x : fx_X := ([], [(37, 1, 1)], [], [], [], [])
set_option maxRecDepth 100000 in
theorem kx250_k : fx_chk TX 2 kx250_c 0 kx250_x t_X2_bitOf kx250_a kx250_s 11 = true := by decide +kernel
set_option maxRecDepth 100000 in
theorem kx250 {l : Launch} {E : (Nat → Prop) → State → Prop} {ad : List Nat} {D : va_G} {gs : List Nat} {cy : Nat → ClassId} (h : fxX E D cy) : fx_Met l yX2_bitOf (.code yX2_bitOf cX2_bitOf 2 (some .int) :: wsL_law) ({ frames := 0, cells := 0, slots := 0, locals := 0 }) E (gs, TX, cy, fun _ => True) ad D classes kx250_c :=
  fx_sound (x := kx250_x) (tb := t_X2_bitOf) (an := kx250_a) (sp := kx250_s) (rk := 0) 11 h.1 (fun _ _ _ _ _ _ => trivial) (fun _ _ _ _ _ _ => trivial) (ht_tys cy) (by decide) rfl ⟨fx_an, (fx_ac fl_X2_37 (fx_an)), fx_an, fx_an, fx_an, fx_an⟩ d_X2_bitOf kx250_k
-- X2_bitOf 11 i ('c', 1) ('c', 6)
def kx251_c : fx_C := ([.inr (.inr 12), .inl (1, 1)], [((0, 1), .inl (6, 6))], [(some (.inl (16, 16)), [.inr (.inr 12), .inl (1, 1)], [])], [])
def kx251_a : List fx_N := []
def kx251_s : List fx_D := []
def kx251_x : fx_X := ([], [(37, 1, 1)], [], [], [], [])
set_option maxRecDepth 100000 in
theorem kx251_k : fx_chk TX 2 kx251_c 0 kx251_x t_X2_bitOf kx251_a kx251_s 11 = true := by decide +kernel
set_option maxRecDepth 100000 in
theorem kx251 {l : Launch} {E : (Nat → Prop) → State → Prop} {ad : List Nat} {D : va_G} {gs : List Nat} {cy : Nat → ClassId} (h : fxX E D cy) : fx_Met l yX2_bitOf (.code yX2_bitOf cX2_bitOf 2 (some .int) :: wsL_law) ({ frames := 0, cells := 0, slots := 0, locals := 0 }) E (gs, TX, cy, fun _ => True) ad D classes kx251_c :=
  fx_sound (x := kx251_x) (tb := t_X2_bitOf) (an := kx251_a) (sp := kx251_s) (rk := 0) 11 h.1 (fun _ _ _ _ _ _ => trivial) (fun _ _ _ _ _ _ => trivial) (ht_tys cy) (by decide) rfl ⟨fx_an, (fx_ac fl_X2_37 (fx_an)), fx_an, fx_an, fx_an, fx_an⟩ d_X2_bitOf kx251_k
-- X2_bitOf 11 i ('c', 2) ('c', 6)
def kx252_c : fx_C := ([.inr (.inr 12), .inl (2, 2)], [((0, 1), .inl (6, 6))], [(some (.inl (8, 8)), [.inr (.inr 12), .inl (2, 2)], [])], [])
def kx252_a : List fx_N := []
def kx252_s : List fx_D := []
def kx252_x : fx_X := ([], [(37, 1, 1)], [], [], [], [])
set_option maxRecDepth 100000 in
theorem kx252_k : fx_chk TX 2 kx252_c 0 kx252_x t_X2_bitOf kx252_a kx252_s 11 = true := by decide +kernel
set_option maxRecDepth 100000 in
theorem kx252 {l : Launch} {E : (Nat → Prop) → State → Prop} {ad : List Nat} {D : va_G} {gs : List Nat} {cy : Nat → ClassId} (h : fxX E D cy) : fx_Met l yX2_bitOf (.code yX2_bitOf cX2_bitOf 2 (some .int) :: wsL_law) ({ frames := 0, cells := 0, slots := 0, locals := 0 }) E (gs, TX, cy, fun _ => True) ad D classes kx252_c :=
  fx_sound (x := kx252_x) (tb := t_X2_bitOf) (an := kx252_a) (sp := kx252_s) (rk := 0) 11 h.1 (fun _ _ _ _ _ _ => trivial) (fun _ _ _ _ _ _ => trivial) (ht_tys cy) (by decide) rfl ⟨fx_an, (fx_ac fl_X2_37 (fx_an)), fx_an, fx_an, fx_an, fx_an⟩ d_X2_bitOf kx252_k
-- X2_bitOf 11 i ('c', 3) ('c', 6)
def kx253_c : fx_C := ([.inr (.inr 12), .inl (3, 3)], [((0, 1), .inl (6, 6))], [(some (.inl (4, 4)), [.inr (.inr 12), .inl (3, 3)], [])], [])
def kx253_a : List fx_N := []
def kx253_s : List fx_D := []
def kx253_x : fx_X := ([], [(37, 1, 1)], [], [], [], [])
set_option maxRecDepth 100000 in
theorem kx253_k : fx_chk TX 2 kx253_c 0 kx253_x t_X2_bitOf kx253_a kx253_s 11 = true := by decide +kernel
set_option maxRecDepth 100000 in
theorem kx253 {l : Launch} {E : (Nat → Prop) → State → Prop} {ad : List Nat} {D : va_G} {gs : List Nat} {cy : Nat → ClassId} (h : fxX E D cy) : fx_Met l yX2_bitOf (.code yX2_bitOf cX2_bitOf 2 (some .int) :: wsL_law) ({ frames := 0, cells := 0, slots := 0, locals := 0 }) E (gs, TX, cy, fun _ => True) ad D classes kx253_c :=
  fx_sound (x := kx253_x) (tb := t_X2_bitOf) (an := kx253_a) (sp := kx253_s) (rk := 0) 11 h.1 (fun _ _ _ _ _ _ => trivial) (fun _ _ _ _ _ _ => trivial) (ht_tys cy) (by decide) rfl ⟨fx_an, (fx_ac fl_X2_37 (fx_an)), fx_an, fx_an, fx_an, fx_an⟩ d_X2_bitOf kx253_k
-- X2_bitOf 11 i ('c', 4) ('c', 6)
def kx254_c : fx_C := ([.inr (.inr 12), .inl (4, 4)], [((0, 1), .inl (6, 6))], [(some (.inl (2, 2)), [.inr (.inr 12), .inl (4, 4)], [])], [])
def kx254_a : List fx_N := []
def kx254_s : List fx_D := []
def kx254_x : fx_X := ([], [(37, 1, 1)], [], [], [], [])
set_option maxRecDepth 100000 in
theorem kx254_k : fx_chk TX 2 kx254_c 0 kx254_x t_X2_bitOf kx254_a kx254_s 11 = true := by decide +kernel
set_option maxRecDepth 100000 in
theorem kx254 {l : Launch} {E : (Nat → Prop) → State → Prop} {ad : List Nat} {D : va_G} {gs : List Nat} {cy : Nat → ClassId} (h : fxX E D cy) : fx_Met l yX2_bitOf (.code yX2_bitOf cX2_bitOf 2 (some .int) :: wsL_law) ({ frames := 0, cells := 0, slots := 0, locals := 0 }) E (gs, TX, cy, fun _ => True) ad D classes kx254_c :=
  fx_sound (x := kx254_x) (tb := t_X2_bitOf) (an := kx254_a) (sp := kx254_s) (rk := 0) 11 h.1 (fun _ _ _ _ _ _ => trivial) (fun _ _ _ _ _ _ => trivial) (ht_tys cy) (by decide) rfl ⟨fx_an, (fx_ac fl_X2_37 (fx_an)), fx_an, fx_an, fx_an, fx_an⟩ d_X2_bitOf kx254_k
-- X2_bitOf 11 i ('c', 5) ('c', 6)
def kx255_c : fx_C := ([.inr (.inr 12), .inl (5, 5)], [((0, 1), .inl (6, 6))], [(some (.inl (1, 1)), [.inr (.inr 12), .inl (5, 5)], [])], [])
def kx255_a : List fx_N := []
def kx255_s : List fx_D := []
def kx255_x : fx_X := ([], [(37, 1, 1)], [], [], [], [])
set_option maxRecDepth 100000 in
theorem kx255_k : fx_chk TX 2 kx255_c 0 kx255_x t_X2_bitOf kx255_a kx255_s 11 = true := by decide +kernel
set_option maxRecDepth 100000 in
theorem kx255 {l : Launch} {E : (Nat → Prop) → State → Prop} {ad : List Nat} {D : va_G} {gs : List Nat} {cy : Nat → ClassId} (h : fxX E D cy) : fx_Met l yX2_bitOf (.code yX2_bitOf cX2_bitOf 2 (some .int) :: wsL_law) ({ frames := 0, cells := 0, slots := 0, locals := 0 }) E (gs, TX, cy, fun _ => True) ad D classes kx255_c :=
  fx_sound (x := kx255_x) (tb := t_X2_bitOf) (an := kx255_a) (sp := kx255_s) (rk := 0) 11 h.1 (fun _ _ _ _ _ _ => trivial) (fun _ _ _ _ _ _ => trivial) (ht_tys cy) (by decide) rfl ⟨fx_an, (fx_ac fl_X2_37 (fx_an)), fx_an, fx_an, fx_an, fx_an⟩ d_X2_bitOf kx255_k
-- X2_bestTurn 4 11 i i ('c', 6)
def kx256_c : fx_C := ([.inr (.inr 5), .inr (.inr 12), .inl (0, 4095), .inl (0, 1)], [((1, 1), .inl (6, 6))], [(some (.inl (-2147483648, 2147483647)), [.inr (.inr 5), .inr (.inr 12), .inl (0, 4095), .inl (0, 1)], [])], [])
def kx256_a : List fx_N := [(9, [(6, .inl (0, 0)), (0, .inr (.inr 5)), (1, .inr (.inr 12)), (2, .inl (0, 4095)), (3, .inl (0, 1)), (4, .inl (0, 0)), (5, .inl (0, 0))], [((2, 1), .inl (6, 6))], [(0, 6)], [(0, 1), (1, 2), (2, 3), (3, 4)]), (9, [(6, .inl (1, 1)), (0, .inr (.inr 5)), (1, .inr (.inr 12)), (2, .inl (0, 4095)), (3, .inl (0, 1)), (4, .inl (0, 1)), (5, .inl (-2147483648, 2147483647))], [((2, 1), .inl (6, 6))], [(0, 5)], [(0, 1), (1, 2), (2, 3), (3, 4)]), (9, [(6, .inl (2, 2)), (0, .inr (.inr 5)), (1, .inr (.inr 12)), (2, .inl (0, 4095)), (3, .inl (0, 1)), (4, .inl (0, 1)), (5, .inl (-2147483648, 2147483647))], [((2, 1), .inl (6, 6))], [(0, 4)], [(0, 1), (1, 2), (2, 3), (3, 4)]), (9, [(6, .inl (3, 3)), (0, .inr (.inr 5)), (1, .inr (.inr 12)), (2, .inl (0, 4095)), (3, .inl (0, 1)), (4, .inl (0, 1)), (5, .inl (-2147483648, 2147483647))], [((2, 1), .inl (6, 6))], [(0, 3)], [(0, 1), (1, 2), (2, 3), (3, 4)]), (9, [(6, .inl (4, 4)), (0, .inr (.inr 5)), (1, .inr (.inr 12)), (2, .inl (0, 4095)), (3, .inl (0, 1)), (4, .inl (0, 1)), (5, .inl (-2147483648, 2147483647))], [((2, 1), .inl (6, 6))], [(0, 2)], [(0, 1), (1, 2), (2, 3), (3, 4)]), (9, [(6, .inl (5, 5)), (0, .inr (.inr 5)), (1, .inr (.inr 12)), (2, .inl (0, 4095)), (3, .inl (0, 1)), (4, .inl (0, 1)), (5, .inl (-2147483648, 2147483647))], [((2, 1), .inl (6, 6))], [(0, 1)], [(0, 1), (1, 2), (2, 3), (3, 4)]), (9, [(6, .inl (6, 6)), (0, .inr (.inr 5)), (1, .inr (.inr 12)), (2, .inl (0, 4095)), (3, .inl (0, 1)), (4, .inl (0, 1)), (5, .inl (-2147483648, 2147483647))], [((2, 1), .inl (6, 6))], [(0, 0)], [(0, 1), (1, 2), (2, 3), (3, 4)])]
def kx256_s : List fx_D := []
def kx256_x : fx_X := ([], [(11, 2, 0), (37, 1, 1)], [], [], [], [(22, 43, 1000, kx250_c), (22, 43, 1000, kx251_c), (22, 43, 1000, kx252_c), (22, 43, 1000, kx253_c), (22, 43, 1000, kx254_c), (22, 43, 1000, kx255_c)])
set_option maxRecDepth 100000 in
theorem kx256_k : fx_chk TX 9 kx256_c 0 kx256_x t_X2_bestTurn kx256_a kx256_s 38 = true := by decide +kernel
set_option maxRecDepth 100000 in
theorem kx256 {l : Launch} {E : (Nat → Prop) → State → Prop} {ad : List Nat} {D : va_G} {gs : List Nat} {cy : Nat → ClassId} (h : fxX E D cy) : fx_Met l yX2_bestTurn (.code yX2_bestTurn cX2_bestTurn 9 (some .int) :: wsL_law) ({ frames := 1, cells := 0, slots := 0, locals := 21 }) E (gs, TX, cy, fun _ => True) ad D classes kx256_c :=
  fx_sound (x := kx256_x) (tb := t_X2_bestTurn) (an := kx256_a) (sp := kx256_s) (rk := 0) 38 h.1 (fun _ _ _ _ _ _ => trivial) (fun _ _ _ _ _ _ => trivial) (ht_tys cy) (by decide) rfl ⟨fx_an, (fx_ac fl_X2_11 (fx_ac fl_X2_37 (fx_an))), fx_an, fx_an, fx_an, (fx_ac (ev_S (kx250 h) ⟨by decide, by decide⟩ iS_X2_bitOf g_X2_43) (fx_ac (ev_S (kx251 h) ⟨by decide, by decide⟩ iS_X2_bitOf g_X2_43) (fx_ac (ev_S (kx252 h) ⟨by decide, by decide⟩ iS_X2_bitOf g_X2_43) (fx_ac (ev_S (kx253 h) ⟨by decide, by decide⟩ iS_X2_bitOf g_X2_43) (fx_ac (ev_S (kx254 h) ⟨by decide, by decide⟩ iS_X2_bitOf g_X2_43) (fx_ac (ev_S (kx255 h) ⟨by decide, by decide⟩ iS_X2_bitOf g_X2_43) (fx_an)))))))⟩ d_X2_bestTurn kx256_k
-- X2_bitOf 11 i ('c', 0) ('c', 7)
def kx257_c : fx_C := ([.inr (.inr 12), .inl (0, 0)], [((0, 1), .inl (7, 7))], [(some (.inl (64, 64)), [.inr (.inr 12), .inl (0, 0)], [])], [])
def kx257_a : List fx_N := []
def kx257_s : List fx_D := []
def kx257_x : fx_X := ([], [(37, 1, 1)], [], [], [], [])
set_option maxRecDepth 100000 in
theorem kx257_k : fx_chk TX 2 kx257_c 0 kx257_x t_X2_bitOf kx257_a kx257_s 11 = true := by decide +kernel
set_option maxRecDepth 100000 in
theorem kx257 {l : Launch} {E : (Nat → Prop) → State → Prop} {ad : List Nat} {D : va_G} {gs : List Nat} {cy : Nat → ClassId} (h : fxX E D cy) : fx_Met l yX2_bitOf (.code yX2_bitOf cX2_bitOf 2 (some .int) :: wsL_law) ({ frames := 0, cells := 0, slots := 0, locals := 0 }) E (gs, TX, cy, fun _ => True) ad D classes kx257_c :=
  fx_sound (x := kx257_x) (tb := t_X2_bitOf) (an := kx257_a) (sp := kx257_s) (rk := 0) 11 h.1 (fun _ _ _ _ _ _ => trivial) (fun _ _ _ _ _ _ => trivial) (ht_tys cy) (by decide) rfl ⟨fx_an, (fx_ac fl_X2_37 (fx_an)), fx_an, fx_an, fx_an, fx_an⟩ d_X2_bitOf kx257_k
-- X2_bitOf 11 i ('c', 1) ('c', 7)
def kx258_c : fx_C := ([.inr (.inr 12), .inl (1, 1)], [((0, 1), .inl (7, 7))], [(some (.inl (32, 32)), [.inr (.inr 12), .inl (1, 1)], [])], [])
def kx258_a : List fx_N := []
def kx258_s : List fx_D := []
def kx258_x : fx_X := ([], [(37, 1, 1)], [], [], [], [])
set_option maxRecDepth 100000 in
theorem kx258_k : fx_chk TX 2 kx258_c 0 kx258_x t_X2_bitOf kx258_a kx258_s 11 = true := by decide +kernel
set_option maxRecDepth 100000 in
theorem kx258 {l : Launch} {E : (Nat → Prop) → State → Prop} {ad : List Nat} {D : va_G} {gs : List Nat} {cy : Nat → ClassId} (h : fxX E D cy) : fx_Met l yX2_bitOf (.code yX2_bitOf cX2_bitOf 2 (some .int) :: wsL_law) ({ frames := 0, cells := 0, slots := 0, locals := 0 }) E (gs, TX, cy, fun _ => True) ad D classes kx258_c :=
  fx_sound (x := kx258_x) (tb := t_X2_bitOf) (an := kx258_a) (sp := kx258_s) (rk := 0) 11 h.1 (fun _ _ _ _ _ _ => trivial) (fun _ _ _ _ _ _ => trivial) (ht_tys cy) (by decide) rfl ⟨fx_an, (fx_ac fl_X2_37 (fx_an)), fx_an, fx_an, fx_an, fx_an⟩ d_X2_bitOf kx258_k
-- X2_bitOf 11 i ('c', 2) ('c', 7)
def kx259_c : fx_C := ([.inr (.inr 12), .inl (2, 2)], [((0, 1), .inl (7, 7))], [(some (.inl (16, 16)), [.inr (.inr 12), .inl (2, 2)], [])], [])
def kx259_a : List fx_N := []
def kx259_s : List fx_D := []
def kx259_x : fx_X := ([], [(37, 1, 1)], [], [], [], [])
set_option maxRecDepth 100000 in
theorem kx259_k : fx_chk TX 2 kx259_c 0 kx259_x t_X2_bitOf kx259_a kx259_s 11 = true := by decide +kernel
set_option maxRecDepth 100000 in
theorem kx259 {l : Launch} {E : (Nat → Prop) → State → Prop} {ad : List Nat} {D : va_G} {gs : List Nat} {cy : Nat → ClassId} (h : fxX E D cy) : fx_Met l yX2_bitOf (.code yX2_bitOf cX2_bitOf 2 (some .int) :: wsL_law) ({ frames := 0, cells := 0, slots := 0, locals := 0 }) E (gs, TX, cy, fun _ => True) ad D classes kx259_c :=
  fx_sound (x := kx259_x) (tb := t_X2_bitOf) (an := kx259_a) (sp := kx259_s) (rk := 0) 11 h.1 (fun _ _ _ _ _ _ => trivial) (fun _ _ _ _ _ _ => trivial) (ht_tys cy) (by decide) rfl ⟨fx_an, (fx_ac fl_X2_37 (fx_an)), fx_an, fx_an, fx_an, fx_an⟩ d_X2_bitOf kx259_k
-- X2_bitOf 11 i ('c', 3) ('c', 7)
def kx260_c : fx_C := ([.inr (.inr 12), .inl (3, 3)], [((0, 1), .inl (7, 7))], [(some (.inl (8, 8)), [.inr (.inr 12), .inl (3, 3)], [])], [])
def kx260_a : List fx_N := []
def kx260_s : List fx_D := []
def kx260_x : fx_X := ([], [(37, 1, 1)], [], [], [], [])
set_option maxRecDepth 100000 in
theorem kx260_k : fx_chk TX 2 kx260_c 0 kx260_x t_X2_bitOf kx260_a kx260_s 11 = true := by decide +kernel
set_option maxRecDepth 100000 in
theorem kx260 {l : Launch} {E : (Nat → Prop) → State → Prop} {ad : List Nat} {D : va_G} {gs : List Nat} {cy : Nat → ClassId} (h : fxX E D cy) : fx_Met l yX2_bitOf (.code yX2_bitOf cX2_bitOf 2 (some .int) :: wsL_law) ({ frames := 0, cells := 0, slots := 0, locals := 0 }) E (gs, TX, cy, fun _ => True) ad D classes kx260_c :=
  fx_sound (x := kx260_x) (tb := t_X2_bitOf) (an := kx260_a) (sp := kx260_s) (rk := 0) 11 h.1 (fun _ _ _ _ _ _ => trivial) (fun _ _ _ _ _ _ => trivial) (ht_tys cy) (by decide) rfl ⟨fx_an, (fx_ac fl_X2_37 (fx_an)), fx_an, fx_an, fx_an, fx_an⟩ d_X2_bitOf kx260_k
-- X2_bitOf 11 i ('c', 4) ('c', 7)
def kx261_c : fx_C := ([.inr (.inr 12), .inl (4, 4)], [((0, 1), .inl (7, 7))], [(some (.inl (4, 4)), [.inr (.inr 12), .inl (4, 4)], [])], [])
def kx261_a : List fx_N := []
def kx261_s : List fx_D := []
def kx261_x : fx_X := ([], [(37, 1, 1)], [], [], [], [])
set_option maxRecDepth 100000 in
theorem kx261_k : fx_chk TX 2 kx261_c 0 kx261_x t_X2_bitOf kx261_a kx261_s 11 = true := by decide +kernel
set_option maxRecDepth 100000 in
theorem kx261 {l : Launch} {E : (Nat → Prop) → State → Prop} {ad : List Nat} {D : va_G} {gs : List Nat} {cy : Nat → ClassId} (h : fxX E D cy) : fx_Met l yX2_bitOf (.code yX2_bitOf cX2_bitOf 2 (some .int) :: wsL_law) ({ frames := 0, cells := 0, slots := 0, locals := 0 }) E (gs, TX, cy, fun _ => True) ad D classes kx261_c :=
  fx_sound (x := kx261_x) (tb := t_X2_bitOf) (an := kx261_a) (sp := kx261_s) (rk := 0) 11 h.1 (fun _ _ _ _ _ _ => trivial) (fun _ _ _ _ _ _ => trivial) (ht_tys cy) (by decide) rfl ⟨fx_an, (fx_ac fl_X2_37 (fx_an)), fx_an, fx_an, fx_an, fx_an⟩ d_X2_bitOf kx261_k
-- X2_bitOf 11 i ('c', 5) ('c', 7)
def kx262_c : fx_C := ([.inr (.inr 12), .inl (5, 5)], [((0, 1), .inl (7, 7))], [(some (.inl (2, 2)), [.inr (.inr 12), .inl (5, 5)], [])], [])
def kx262_a : List fx_N := []
def kx262_s : List fx_D := []
def kx262_x : fx_X := ([], [(37, 1, 1)], [], [], [], [])
set_option maxRecDepth 100000 in
theorem kx262_k : fx_chk TX 2 kx262_c 0 kx262_x t_X2_bitOf kx262_a kx262_s 11 = true := by decide +kernel
set_option maxRecDepth 100000 in
theorem kx262 {l : Launch} {E : (Nat → Prop) → State → Prop} {ad : List Nat} {D : va_G} {gs : List Nat} {cy : Nat → ClassId} (h : fxX E D cy) : fx_Met l yX2_bitOf (.code yX2_bitOf cX2_bitOf 2 (some .int) :: wsL_law) ({ frames := 0, cells := 0, slots := 0, locals := 0 }) E (gs, TX, cy, fun _ => True) ad D classes kx262_c :=
  fx_sound (x := kx262_x) (tb := t_X2_bitOf) (an := kx262_a) (sp := kx262_s) (rk := 0) 11 h.1 (fun _ _ _ _ _ _ => trivial) (fun _ _ _ _ _ _ => trivial) (ht_tys cy) (by decide) rfl ⟨fx_an, (fx_ac fl_X2_37 (fx_an)), fx_an, fx_an, fx_an, fx_an⟩ d_X2_bitOf kx262_k
-- X2_bitOf 11 i ('c', 6) ('c', 7)
def kx263_c : fx_C := ([.inr (.inr 12), .inl (6, 6)], [((0, 1), .inl (7, 7))], [(some (.inl (1, 1)), [.inr (.inr 12), .inl (6, 6)], [])], [])
def kx263_a : List fx_N := []
def kx263_s : List fx_D := []
def kx263_x : fx_X := ([], [(37, 1, 1)], [], [], [], [])
set_option maxRecDepth 100000 in
theorem kx263_k : fx_chk TX 2 kx263_c 0 kx263_x t_X2_bitOf kx263_a kx263_s 11 = true := by decide +kernel
set_option maxRecDepth 100000 in
theorem kx263 {l : Launch} {E : (Nat → Prop) → State → Prop} {ad : List Nat} {D : va_G} {gs : List Nat} {cy : Nat → ClassId} (h : fxX E D cy) : fx_Met l yX2_bitOf (.code yX2_bitOf cX2_bitOf 2 (some .int) :: wsL_law) ({ frames := 0, cells := 0, slots := 0, locals := 0 }) E (gs, TX, cy, fun _ => True) ad D classes kx263_c :=
  fx_sound (x := kx263_x) (tb := t_X2_bitOf) (an := kx263_a) (sp := kx263_s) (rk := 0) 11 h.1 (fun _ _ _ _ _ _ => trivial) (fun _ _ _ _ _ _ => trivial) (ht_tys cy) (by decide) rfl ⟨fx_an, (fx_ac fl_X2_37 (fx_an)), fx_an, fx_an, fx_an, fx_an⟩ d_X2_bitOf kx263_k
