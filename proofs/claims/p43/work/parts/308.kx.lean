-- X2_bitOf 11 i ('c', 0) ('c', 10)
def kx238_c : fx_C := ([.inr (.inr 12), .inl (0, 0)], [((0, 1), .inl (10, 10))], [(some (.inl (512, 512)), [.inr (.inr 12), .inl (0, 0)], [])], [])
def kx238_a : List fx_N := []
def kx238_s : List fx_D := []
def kx238_x : fx_X := ([], [(37, 1, 1)], [], [], [], [])
set_option maxRecDepth 100000 in
theorem kx238_k : fx_chk TX 2 kx238_c 0 kx238_x t_X2_bitOf kx238_a kx238_s 11 = true := by decide +kernel
set_option maxRecDepth 100000 in
theorem kx238 {l : Launch} {E : (Nat → Prop) → State → Prop} {ad : List Nat} {D : va_G} {gs : List Nat} {cy : Nat → ClassId} (h : fx_env E D classes (tys cy) nestW) : fx_Met l yX2_bitOf (.code yX2_bitOf cX2_bitOf 2 (some .int) :: wsL_law) ({ frames := 0, cells := 0, slots := 0, locals := 0 }) E (gs, TX, cy, fun _ => True) ad D classes kx238_c :=
  fx_sound (x := kx238_x) (tb := t_X2_bitOf) (an := kx238_a) (sp := kx238_s) (rk := 0) 11 h (fun _ _ _ _ => trivial) (ht_tys cy) (by decide) rfl ⟨fx_an, (fx_ac fl_X2_37 (fx_an)), fx_an, fx_an, fx_an, fx_an⟩ d_X2_bitOf kx238_k
-- X2_bitOf 11 i ('c', 0) ('c', 11)
def kx239_c : fx_C := ([.inr (.inr 12), .inl (0, 0)], [((0, 1), .inl (11, 11))], [(some (.inl (1024, 1024)), [.inr (.inr 12), .inl (0, 0)], [])], [])
def kx239_a : List fx_N := []
def kx239_s : List fx_D := []
def kx239_x : fx_X := ([], [(37, 1, 1)], [], [], [], [])
set_option maxRecDepth 100000 in
theorem kx239_k : fx_chk TX 2 kx239_c 0 kx239_x t_X2_bitOf kx239_a kx239_s 11 = true := by decide +kernel
set_option maxRecDepth 100000 in
theorem kx239 {l : Launch} {E : (Nat → Prop) → State → Prop} {ad : List Nat} {D : va_G} {gs : List Nat} {cy : Nat → ClassId} (h : fx_env E D classes (tys cy) nestW) : fx_Met l yX2_bitOf (.code yX2_bitOf cX2_bitOf 2 (some .int) :: wsL_law) ({ frames := 0, cells := 0, slots := 0, locals := 0 }) E (gs, TX, cy, fun _ => True) ad D classes kx239_c :=
  fx_sound (x := kx239_x) (tb := t_X2_bitOf) (an := kx239_a) (sp := kx239_s) (rk := 0) 11 h (fun _ _ _ _ => trivial) (ht_tys cy) (by decide) rfl ⟨fx_an, (fx_ac fl_X2_37 (fx_an)), fx_an, fx_an, fx_an, fx_an⟩ d_X2_bitOf kx239_k
-- X2_bitOf 11 i ('c', 0) ('c', 12)
def kx240_c : fx_C := ([.inr (.inr 12), .inl (0, 0)], [((0, 1), .inl (12, 12))], [(some (.inl (2048, 2048)), [.inr (.inr 12), .inl (0, 0)], [])], [])
def kx240_a : List fx_N := []
def kx240_s : List fx_D := []
def kx240_x : fx_X := ([], [(37, 1, 1)], [], [], [], [])
set_option maxRecDepth 100000 in
theorem kx240_k : fx_chk TX 2 kx240_c 0 kx240_x t_X2_bitOf kx240_a kx240_s 11 = true := by decide +kernel
set_option maxRecDepth 100000 in
theorem kx240 {l : Launch} {E : (Nat → Prop) → State → Prop} {ad : List Nat} {D : va_G} {gs : List Nat} {cy : Nat → ClassId} (h : fx_env E D classes (tys cy) nestW) : fx_Met l yX2_bitOf (.code yX2_bitOf cX2_bitOf 2 (some .int) :: wsL_law) ({ frames := 0, cells := 0, slots := 0, locals := 0 }) E (gs, TX, cy, fun _ => True) ad D classes kx240_c :=
  fx_sound (x := kx240_x) (tb := t_X2_bitOf) (an := kx240_a) (sp := kx240_s) (rk := 0) 11 h (fun _ _ _ _ => trivial) (ht_tys cy) (by decide) rfl ⟨fx_an, (fx_ac fl_X2_37 (fx_an)), fx_an, fx_an, fx_an, fx_an⟩ d_X2_bitOf kx240_k
-- X2_bitOf 11 i ('c', 1) ('c', 2)
def kx241_c : fx_C := ([.inr (.inr 12), .inl (1, 1)], [((0, 1), .inl (2, 2))], [(some (.inl (1, 1)), [.inr (.inr 12), .inl (1, 1)], [])], [])
def kx241_a : List fx_N := []
def kx241_s : List fx_D := []
def kx241_x : fx_X := ([], [(37, 1, 1)], [], [], [], [])
set_option maxRecDepth 100000 in
theorem kx241_k : fx_chk TX 2 kx241_c 0 kx241_x t_X2_bitOf kx241_a kx241_s 11 = true := by decide +kernel
set_option maxRecDepth 100000 in
theorem kx241 {l : Launch} {E : (Nat → Prop) → State → Prop} {ad : List Nat} {D : va_G} {gs : List Nat} {cy : Nat → ClassId} (h : fx_env E D classes (tys cy) nestW) : fx_Met l yX2_bitOf (.code yX2_bitOf cX2_bitOf 2 (some .int) :: wsL_law) ({ frames := 0, cells := 0, slots := 0, locals := 0 }) E (gs, TX, cy, fun _ => True) ad D classes kx241_c :=
  fx_sound (x := kx241_x) (tb := t_X2_bitOf) (an := kx241_a) (sp := kx241_s) (rk := 0) 11 h (fun _ _ _ _ => trivial) (ht_tys cy) (by decide) rfl ⟨fx_an, (fx_ac fl_X2_37 (fx_an)), fx_an, fx_an, fx_an, fx_an⟩ d_X2_bitOf kx241_k
-- X2_bitOf 11 i ('c', 1) ('c', 3)
def kx242_c : fx_C := ([.inr (.inr 12), .inl (1, 1)], [((0, 1), .inl (3, 3))], [(some (.inl (2, 2)), [.inr (.inr 12), .inl (1, 1)], [])], [])
def kx242_a : List fx_N := []
def kx242_s : List fx_D := []
def kx242_x : fx_X := ([], [(37, 1, 1)], [], [], [], [])
set_option maxRecDepth 100000 in
theorem kx242_k : fx_chk TX 2 kx242_c 0 kx242_x t_X2_bitOf kx242_a kx242_s 11 = true := by decide +kernel
set_option maxRecDepth 100000 in
theorem kx242 {l : Launch} {E : (Nat → Prop) → State → Prop} {ad : List Nat} {D : va_G} {gs : List Nat} {cy : Nat → ClassId} (h : fx_env E D classes (tys cy) nestW) : fx_Met l yX2_bitOf (.code yX2_bitOf cX2_bitOf 2 (some .int) :: wsL_law) ({ frames := 0, cells := 0, slots := 0, locals := 0 }) E (gs, TX, cy, fun _ => True) ad D classes kx242_c :=
  fx_sound (x := kx242_x) (tb := t_X2_bitOf) (an := kx242_a) (sp := kx242_s) (rk := 0) 11 h (fun _ _ _ _ => trivial) (ht_tys cy) (by decide) rfl ⟨fx_an, (fx_ac fl_X2_37 (fx_an)), fx_an, fx_an, fx_an, fx_an⟩ d_X2_bitOf kx242_k
-- X2_bitOf 11 i ('c', 1) ('c', 4)
def kx243_c : fx_C := ([.inr (.inr 12), .inl (1, 1)], [((0, 1), .inl (4, 4))], [(some (.inl (4, 4)), [.inr (.inr 12), .inl (1, 1)], [])], [])
def kx243_a : List fx_N := []
def kx243_s : List fx_D := []
def kx243_x : fx_X := ([], [(37, 1, 1)], [], [], [], [])
set_option maxRecDepth 100000 in
theorem kx243_k : fx_chk TX 2 kx243_c 0 kx243_x t_X2_bitOf kx243_a kx243_s 11 = true := by decide +kernel
set_option maxRecDepth 100000 in
theorem kx243 {l : Launch} {E : (Nat → Prop) → State → Prop} {ad : List Nat} {D : va_G} {gs : List Nat} {cy : Nat → ClassId} (h : fx_env E D classes (tys cy) nestW) : fx_Met l yX2_bitOf (.code yX2_bitOf cX2_bitOf 2 (some .int) :: wsL_law) ({ frames := 0, cells := 0, slots := 0, locals := 0 }) E (gs, TX, cy, fun _ => True) ad D classes kx243_c :=
  fx_sound (x := kx243_x) (tb := t_X2_bitOf) (an := kx243_a) (sp := kx243_s) (rk := 0) 11 h (fun _ _ _ _ => trivial) (ht_tys cy) (by decide) rfl ⟨fx_an, (fx_ac fl_X2_37 (fx_an)), fx_an, fx_an, fx_an, fx_an⟩ d_X2_bitOf kx243_k
-- X2_bitOf 11 i ('c', 1) ('c', 5)
def kx244_c : fx_C := ([.inr (.inr 12), .inl (1, 1)], [((0, 1), .inl (5, 5))], [(some (.inl (8, 8)), [.inr (.inr 12), .inl (1, 1)], [])], [])
def kx244_a : List fx_N := []
def kx244_s : List fx_D := []
def kx244_x : fx_X := ([], [(37, 1, 1)], [], [], [], [])
set_option maxRecDepth 100000 in
theorem kx244_k : fx_chk TX 2 kx244_c 0 kx244_x t_X2_bitOf kx244_a kx244_s 11 = true := by decide +kernel
set_option maxRecDepth 100000 in
theorem kx244 {l : Launch} {E : (Nat → Prop) → State → Prop} {ad : List Nat} {D : va_G} {gs : List Nat} {cy : Nat → ClassId} (h : fx_env E D classes (tys cy) nestW) : fx_Met l yX2_bitOf (.code yX2_bitOf cX2_bitOf 2 (some .int) :: wsL_law) ({ frames := 0, cells := 0, slots := 0, locals := 0 }) E (gs, TX, cy, fun _ => True) ad D classes kx244_c :=
  fx_sound (x := kx244_x) (tb := t_X2_bitOf) (an := kx244_a) (sp := kx244_s) (rk := 0) 11 h (fun _ _ _ _ => trivial) (ht_tys cy) (by decide) rfl ⟨fx_an, (fx_ac fl_X2_37 (fx_an)), fx_an, fx_an, fx_an, fx_an⟩ d_X2_bitOf kx244_k
-- X2_bitOf 11 i ('c', 1) ('c', 6)
def kx245_c : fx_C := ([.inr (.inr 12), .inl (1, 1)], [((0, 1), .inl (6, 6))], [(some (.inl (16, 16)), [.inr (.inr 12), .inl (1, 1)], [])], [])
def kx245_a : List fx_N := []
def kx245_s : List fx_D := []
def kx245_x : fx_X := ([], [(37, 1, 1)], [], [], [], [])
set_option maxRecDepth 100000 in
theorem kx245_k : fx_chk TX 2 kx245_c 0 kx245_x t_X2_bitOf kx245_a kx245_s 11 = true := by decide +kernel
set_option maxRecDepth 100000 in
theorem kx245 {l : Launch} {E : (Nat → Prop) → State → Prop} {ad : List Nat} {D : va_G} {gs : List Nat} {cy : Nat → ClassId} (h : fx_env E D classes (tys cy) nestW) : fx_Met l yX2_bitOf (.code yX2_bitOf cX2_bitOf 2 (some .int) :: wsL_law) ({ frames := 0, cells := 0, slots := 0, locals := 0 }) E (gs, TX, cy, fun _ => True) ad D classes kx245_c :=
  fx_sound (x := kx245_x) (tb := t_X2_bitOf) (an := kx245_a) (sp := kx245_s) (rk := 0) 11 h (fun _ _ _ _ => trivial) (ht_tys cy) (by decide) rfl ⟨fx_an, (fx_ac fl_X2_37 (fx_an)), fx_an, fx_an, fx_an, fx_an⟩ d_X2_bitOf kx245_k
-- X2_bitOf 11 i ('c', 1) ('c', 7)
def kx246_c : fx_C := ([.inr (.inr 12), .inl (1, 1)], [((0, 1), .inl (7, 7))], [(some (.inl (32, 32)), [.inr (.inr 12), .inl (1, 1)], [])], [])
def kx246_a : List fx_N := []
def kx246_s : List fx_D := []
def kx246_x : fx_X := ([], [(37, 1, 1)], [], [], [], [])
set_option maxRecDepth 100000 in
theorem kx246_k : fx_chk TX 2 kx246_c 0 kx246_x t_X2_bitOf kx246_a kx246_s 11 = true := by decide +kernel
set_option maxRecDepth 100000 in
theorem kx246 {l : Launch} {E : (Nat → Prop) → State → Prop} {ad : List Nat} {D : va_G} {gs : List Nat} {cy : Nat → ClassId} (h : fx_env E D classes (tys cy) nestW) : fx_Met l yX2_bitOf (.code yX2_bitOf cX2_bitOf 2 (some .int) :: wsL_law) ({ frames := 0, cells := 0, slots := 0, locals := 0 }) E (gs, TX, cy, fun _ => True) ad D classes kx246_c :=
  fx_sound (x := kx246_x) (tb := t_X2_bitOf) (an := kx246_a) (sp := kx246_s) (rk := 0) 11 h (fun _ _ _ _ => trivial) (ht_tys cy) (by decide) rfl ⟨fx_an, (fx_ac fl_X2_37 (fx_an)), fx_an, fx_an, fx_an, fx_an⟩ d_X2_bitOf kx246_k
-- X2_bitOf 11 i ('c', 1) ('c', 8)
def kx247_c : fx_C := ([.inr (.inr 12), .inl (1, 1)], [((0, 1), .inl (8, 8))], [(some (.inl (64, 64)), [.inr (.inr 12), .inl (1, 1)], [])], [])
def kx247_a : List fx_N := []
def kx247_s : List fx_D := []
def kx247_x : fx_X := ([], [(37, 1, 1)], [], [], [], [])
set_option maxRecDepth 100000 in
theorem kx247_k : fx_chk TX 2 kx247_c 0 kx247_x t_X2_bitOf kx247_a kx247_s 11 = true := by decide +kernel
set_option maxRecDepth 100000 in
theorem kx247 {l : Launch} {E : (Nat → Prop) → State → Prop} {ad : List Nat} {D : va_G} {gs : List Nat} {cy : Nat → ClassId} (h : fx_env E D classes (tys cy) nestW) : fx_Met l yX2_bitOf (.code yX2_bitOf cX2_bitOf 2 (some .int) :: wsL_law) ({ frames := 0, cells := 0, slots := 0, locals := 0 }) E (gs, TX, cy, fun _ => True) ad D classes kx247_c :=
  fx_sound (x := kx247_x) (tb := t_X2_bitOf) (an := kx247_a) (sp := kx247_s) (rk := 0) 11 h (fun _ _ _ _ => trivial) (ht_tys cy) (by decide) rfl ⟨fx_an, (fx_ac fl_X2_37 (fx_an)), fx_an, fx_an, fx_an, fx_an⟩ d_X2_bitOf kx247_k
-- X2_bitOf 11 i ('c', 1) ('c', 9)
def kx248_c : fx_C := ([.inr (.inr 12), .inl (1, 1)], [((0, 1), .inl (9, 9))], [(some (.inl (128, 128)), [.inr (.inr 12), .inl (1, 1)], [])], [])
def kx248_a : List fx_N := []
def kx248_s : List fx_D := []
def kx248_x : fx_X := ([], [(37, 1, 1)], [], [], [], [])
set_option maxRecDepth 100000 in
theorem kx248_k : fx_chk TX 2 kx248_c 0 kx248_x t_X2_bitOf kx248_a kx248_s 11 = true := by decide +kernel
set_option maxRecDepth 100000 in
theorem kx248 {l : Launch} {E : (Nat → Prop) → State → Prop} {ad : List Nat} {D : va_G} {gs : List Nat} {cy : Nat → ClassId} (h : fx_env E D classes (tys cy) nestW) : fx_Met l yX2_bitOf (.code yX2_bitOf cX2_bitOf 2 (some .int) :: wsL_law) ({ frames := 0, cells := 0, slots := 0, locals := 0 }) E (gs, TX, cy, fun _ => True) ad D classes kx248_c :=
  fx_sound (x := kx248_x) (tb := t_X2_bitOf) (an := kx248_a) (sp := kx248_s) (rk := 0) 11 h (fun _ _ _ _ => trivial) (ht_tys cy) (by decide) rfl ⟨fx_an, (fx_ac fl_X2_37 (fx_an)), fx_an, fx_an, fx_an, fx_an⟩ d_X2_bitOf kx248_k
-- X2_bitOf 11 i ('c', 1) ('c', 10)
def kx249_c : fx_C := ([.inr (.inr 12), .inl (1, 1)], [((0, 1), .inl (10, 10))], [(some (.inl (256, 256)), [.inr (.inr 12), .inl (1, 1)], [])], [])
def kx249_a : List fx_N := []
def kx249_s : List fx_D := []
def kx249_x : fx_X := ([], [(37, 1, 1)], [], [], [], [])
set_option maxRecDepth 100000 in
theorem kx249_k : fx_chk TX 2 kx249_c 0 kx249_x t_X2_bitOf kx249_a kx249_s 11 = true := by decide +kernel
set_option maxRecDepth 100000 in
theorem kx249 {l : Launch} {E : (Nat → Prop) → State → Prop} {ad : List Nat} {D : va_G} {gs : List Nat} {cy : Nat → ClassId} (h : fx_env E D classes (tys cy) nestW) : fx_Met l yX2_bitOf (.code yX2_bitOf cX2_bitOf 2 (some .int) :: wsL_law) ({ frames := 0, cells := 0, slots := 0, locals := 0 }) E (gs, TX, cy, fun _ => True) ad D classes kx249_c :=
  fx_sound (x := kx249_x) (tb := t_X2_bitOf) (an := kx249_a) (sp := kx249_s) (rk := 0) 11 h (fun _ _ _ _ => trivial) (ht_tys cy) (by decide) rfl ⟨fx_an, (fx_ac fl_X2_37 (fx_an)), fx_an, fx_an, fx_an, fx_an⟩ d_X2_bitOf kx249_k
-- X2_bitOf 11 i ('c', 1) ('c', 11)
def kx250_c : fx_C := ([.inr (.inr 12), .inl (1, 1)], [((0, 1), .inl (11, 11))], [(some (.inl (512, 512)), [.inr (.inr 12), .inl (1, 1)], [])], [])
def kx250_a : List fx_N := []
def kx250_s : List fx_D := []
def kx250_x : fx_X := ([], [(37, 1, 1)], [], [], [], [])
set_option maxRecDepth 100000 in
theorem kx250_k : fx_chk TX 2 kx250_c 0 kx250_x t_X2_bitOf kx250_a kx250_s 11 = true := by decide +kernel
set_option maxRecDepth 100000 in
theorem kx250 {l : Launch} {E : (Nat → Prop) → State → Prop} {ad : List Nat} {D : va_G} {gs : List Nat} {cy : Nat → ClassId} (h : fx_env E D classes (tys cy) nestW) : fx_Met l yX2_bitOf (.code yX2_bitOf cX2_bitOf 2 (some .int) :: wsL_law) ({ frames := 0, cells := 0, slots := 0, locals := 0 }) E (gs, TX, cy, fun _ => True) ad D classes kx250_c :=
  fx_sound (x := kx250_x) (tb := t_X2_bitOf) (an := kx250_a) (sp := kx250_s) (rk := 0) 11 h (fun _ _ _ _ => trivial) (ht_tys cy) (by decide) rfl ⟨fx_an, (fx_ac fl_X2_37 (fx_an)), fx_an, fx_an, fx_an, fx_an⟩ d_X2_bitOf kx250_k
-- X2_bitOf 11 i ('c', 1) ('c', 12)
def kx251_c : fx_C := ([.inr (.inr 12), .inl (1, 1)], [((0, 1), .inl (12, 12))], [(some (.inl (1024, 1024)), [.inr (.inr 12), .inl (1, 1)], [])], [])
def kx251_a : List fx_N := []
def kx251_s : List fx_D := []
def kx251_x : fx_X := ([], [(37, 1, 1)], [], [], [], [])
set_option maxRecDepth 100000 in
theorem kx251_k : fx_chk TX 2 kx251_c 0 kx251_x t_X2_bitOf kx251_a kx251_s 11 = true := by decide +kernel
set_option maxRecDepth 100000 in
theorem kx251 {l : Launch} {E : (Nat → Prop) → State → Prop} {ad : List Nat} {D : va_G} {gs : List Nat} {cy : Nat → ClassId} (h : fx_env E D classes (tys cy) nestW) : fx_Met l yX2_bitOf (.code yX2_bitOf cX2_bitOf 2 (some .int) :: wsL_law) ({ frames := 0, cells := 0, slots := 0, locals := 0 }) E (gs, TX, cy, fun _ => True) ad D classes kx251_c :=
  fx_sound (x := kx251_x) (tb := t_X2_bitOf) (an := kx251_a) (sp := kx251_s) (rk := 0) 11 h (fun _ _ _ _ => trivial) (ht_tys cy) (by decide) rfl ⟨fx_an, (fx_ac fl_X2_37 (fx_an)), fx_an, fx_an, fx_an, fx_an⟩ d_X2_bitOf kx251_k
-- X2_bitOf 11 i ('c', 2) ('c', 3)
def kx252_c : fx_C := ([.inr (.inr 12), .inl (2, 2)], [((0, 1), .inl (3, 3))], [(some (.inl (1, 1)), [.inr (.inr 12), .inl (2, 2)], [])], [])
def kx252_a : List fx_N := []
def kx252_s : List fx_D := []
def kx252_x : fx_X := ([], [(37, 1, 1)], [], [], [], [])
set_option maxRecDepth 100000 in
theorem kx252_k : fx_chk TX 2 kx252_c 0 kx252_x t_X2_bitOf kx252_a kx252_s 11 = true := by decide +kernel
set_option maxRecDepth 100000 in
theorem kx252 {l : Launch} {E : (Nat → Prop) → State → Prop} {ad : List Nat} {D : va_G} {gs : List Nat} {cy : Nat → ClassId} (h : fx_env E D classes (tys cy) nestW) : fx_Met l yX2_bitOf (.code yX2_bitOf cX2_bitOf 2 (some .int) :: wsL_law) ({ frames := 0, cells := 0, slots := 0, locals := 0 }) E (gs, TX, cy, fun _ => True) ad D classes kx252_c :=
  fx_sound (x := kx252_x) (tb := t_X2_bitOf) (an := kx252_a) (sp := kx252_s) (rk := 0) 11 h (fun _ _ _ _ => trivial) (ht_tys cy) (by decide) rfl ⟨fx_an, (fx_ac fl_X2_37 (fx_an)), fx_an, fx_an, fx_an, fx_an⟩ d_X2_bitOf kx252_k
-- X2_bitOf 11 i ('c', 2) ('c', 4)
def kx253_c : fx_C := ([.inr (.inr 12), .inl (2, 2)], [((0, 1), .inl (4, 4))], [(some (.inl (2, 2)), [.inr (.inr 12), .inl (2, 2)], [])], [])
def kx253_a : List fx_N := []
def kx253_s : List fx_D := []
def kx253_x : fx_X := ([], [(37, 1, 1)], [], [], [], [])
set_option maxRecDepth 100000 in
theorem kx253_k : fx_chk TX 2 kx253_c 0 kx253_x t_X2_bitOf kx253_a kx253_s 11 = true := by decide +kernel
set_option maxRecDepth 100000 in
theorem kx253 {l : Launch} {E : (Nat → Prop) → State → Prop} {ad : List Nat} {D : va_G} {gs : List Nat} {cy : Nat → ClassId} (h : fx_env E D classes (tys cy) nestW) : fx_Met l yX2_bitOf (.code yX2_bitOf cX2_bitOf 2 (some .int) :: wsL_law) ({ frames := 0, cells := 0, slots := 0, locals := 0 }) E (gs, TX, cy, fun _ => True) ad D classes kx253_c :=
  fx_sound (x := kx253_x) (tb := t_X2_bitOf) (an := kx253_a) (sp := kx253_s) (rk := 0) 11 h (fun _ _ _ _ => trivial) (ht_tys cy) (by decide) rfl ⟨fx_an, (fx_ac fl_X2_37 (fx_an)), fx_an, fx_an, fx_an, fx_an⟩ d_X2_bitOf kx253_k
-- X2_bitOf 11 i ('c', 2) ('c', 5)
def kx254_c : fx_C := ([.inr (.inr 12), .inl (2, 2)], [((0, 1), .inl (5, 5))], [(some (.inl (4, 4)), [.inr (.inr 12), .inl (2, 2)], [])], [])
def kx254_a : List fx_N := []
def kx254_s : List fx_D := []
def kx254_x : fx_X := ([], [(37, 1, 1)], [], [], [], [])
set_option maxRecDepth 100000 in
theorem kx254_k : fx_chk TX 2 kx254_c 0 kx254_x t_X2_bitOf kx254_a kx254_s 11 = true := by decide +kernel
set_option maxRecDepth 100000 in
theorem kx254 {l : Launch} {E : (Nat → Prop) → State → Prop} {ad : List Nat} {D : va_G} {gs : List Nat} {cy : Nat → ClassId} (h : fx_env E D classes (tys cy) nestW) : fx_Met l yX2_bitOf (.code yX2_bitOf cX2_bitOf 2 (some .int) :: wsL_law) ({ frames := 0, cells := 0, slots := 0, locals := 0 }) E (gs, TX, cy, fun _ => True) ad D classes kx254_c :=
  fx_sound (x := kx254_x) (tb := t_X2_bitOf) (an := kx254_a) (sp := kx254_s) (rk := 0) 11 h (fun _ _ _ _ => trivial) (ht_tys cy) (by decide) rfl ⟨fx_an, (fx_ac fl_X2_37 (fx_an)), fx_an, fx_an, fx_an, fx_an⟩ d_X2_bitOf kx254_k
-- X2_bitOf 11 i ('c', 2) ('c', 6)
def kx255_c : fx_C := ([.inr (.inr 12), .inl (2, 2)], [((0, 1), .inl (6, 6))], [(some (.inl (8, 8)), [.inr (.inr 12), .inl (2, 2)], [])], [])
def kx255_a : List fx_N := []
def kx255_s : List fx_D := []
def kx255_x : fx_X := ([], [(37, 1, 1)], [], [], [], [])
set_option maxRecDepth 100000 in
theorem kx255_k : fx_chk TX 2 kx255_c 0 kx255_x t_X2_bitOf kx255_a kx255_s 11 = true := by decide +kernel
set_option maxRecDepth 100000 in
theorem kx255 {l : Launch} {E : (Nat → Prop) → State → Prop} {ad : List Nat} {D : va_G} {gs : List Nat} {cy : Nat → ClassId} (h : fx_env E D classes (tys cy) nestW) : fx_Met l yX2_bitOf (.code yX2_bitOf cX2_bitOf 2 (some .int) :: wsL_law) ({ frames := 0, cells := 0, slots := 0, locals := 0 }) E (gs, TX, cy, fun _ => True) ad D classes kx255_c :=
  fx_sound (x := kx255_x) (tb := t_X2_bitOf) (an := kx255_a) (sp := kx255_s) (rk := 0) 11 h (fun _ _ _ _ => trivial) (ht_tys cy) (by decide) rfl ⟨fx_an, (fx_ac fl_X2_37 (fx_an)), fx_an, fx_an, fx_an, fx_an⟩ d_X2_bitOf kx255_k
-- X2_bitOf 11 i ('c', 2) ('c', 7)
def kx256_c : fx_C := ([.inr (.inr 12), .inl (2, 2)], [((0, 1), .inl (7, 7))], [(some (.inl (16, 16)), [.inr (.inr 12), .inl (2, 2)], [])], [])
def kx256_a : List fx_N := []
def kx256_s : List fx_D := []
def kx256_x : fx_X := ([], [(37, 1, 1)], [], [], [], [])
set_option maxRecDepth 100000 in
theorem kx256_k : fx_chk TX 2 kx256_c 0 kx256_x t_X2_bitOf kx256_a kx256_s 11 = true := by decide +kernel
set_option maxRecDepth 100000 in
theorem kx256 {l : Launch} {E : (Nat → Prop) → State → Prop} {ad : List Nat} {D : va_G} {gs : List Nat} {cy : Nat → ClassId} (h : fx_env E D classes (tys cy) nestW) : fx_Met l yX2_bitOf (.code yX2_bitOf cX2_bitOf 2 (some .int) :: wsL_law) ({ frames := 0, cells := 0, slots := 0, locals := 0 }) E (gs, TX, cy, fun _ => True) ad D classes kx256_c :=
  fx_sound (x := kx256_x) (tb := t_X2_bitOf) (an := kx256_a) (sp := kx256_s) (rk := 0) 11 h (fun _ _ _ _ => trivial) (ht_tys cy) (by decide) rfl ⟨fx_an, (fx_ac fl_X2_37 (fx_an)), fx_an, fx_an, fx_an, fx_an⟩ d_X2_bitOf kx256_k
-- X2_bitOf 11 i ('c', 2) ('c', 8)
def kx257_c : fx_C := ([.inr (.inr 12), .inl (2, 2)], [((0, 1), .inl (8, 8))], [(some (.inl (32, 32)), [.inr (.inr 12), .inl (2, 2)], [])], [])
def kx257_a : List fx_N := []
def kx257_s : List fx_D := []
def kx257_x : fx_X := ([], [(37, 1, 1)], [], [], [], [])
set_option maxRecDepth 100000 in
theorem kx257_k : fx_chk TX 2 kx257_c 0 kx257_x t_X2_bitOf kx257_a kx257_s 11 = true := by decide +kernel
set_option maxRecDepth 100000 in
theorem kx257 {l : Launch} {E : (Nat → Prop) → State → Prop} {ad : List Nat} {D : va_G} {gs : List Nat} {cy : Nat → ClassId} (h : fx_env E D classes (tys cy) nestW) : fx_Met l yX2_bitOf (.code yX2_bitOf cX2_bitOf 2 (some .int) :: wsL_law) ({ frames := 0, cells := 0, slots := 0, locals := 0 }) E (gs, TX, cy, fun _ => True) ad D classes kx257_c :=
  fx_sound (x := kx257_x) (tb := t_X2_bitOf) (an := kx257_a) (sp := kx257_s) (rk := 0) 11 h (fun _ _ _ _ => trivial) (ht_tys cy) (by decide) rfl ⟨fx_an, (fx_ac fl_X2_37 (fx_an)), fx_an, fx_an, fx_an, fx_an⟩ d_X2_bitOf kx257_k
-- X2_bitOf 11 i ('c', 2) ('c', 9)
def kx258_c : fx_C := ([.inr (.inr 12), .inl (2, 2)], [((0, 1), .inl (9, 9))], [(some (.inl (64, 64)), [.inr (.inr 12), .inl (2, 2)], [])], [])
def kx258_a : List fx_N := []
def kx258_s : List fx_D := []
def kx258_x : fx_X := ([], [(37, 1, 1)], [], [], [], [])
set_option maxRecDepth 100000 in
theorem kx258_k : fx_chk TX 2 kx258_c 0 kx258_x t_X2_bitOf kx258_a kx258_s 11 = true := by decide +kernel
set_option maxRecDepth 100000 in
theorem kx258 {l : Launch} {E : (Nat → Prop) → State → Prop} {ad : List Nat} {D : va_G} {gs : List Nat} {cy : Nat → ClassId} (h : fx_env E D classes (tys cy) nestW) : fx_Met l yX2_bitOf (.code yX2_bitOf cX2_bitOf 2 (some .int) :: wsL_law) ({ frames := 0, cells := 0, slots := 0, locals := 0 }) E (gs, TX, cy, fun _ => True) ad D classes kx258_c :=
  fx_sound (x := kx258_x) (tb := t_X2_bitOf) (an := kx258_a) (sp := kx258_s) (rk := 0) 11 h (fun _ _ _ _ => trivial) (ht_tys cy) (by decide) rfl ⟨fx_an, (fx_ac fl_X2_37 (fx_an)), fx_an, fx_an, fx_an, fx_an⟩ d_X2_bitOf kx258_k
-- X2_bitOf 11 i ('c', 2) ('c', 10)
def kx259_c : fx_C := ([.inr (.inr 12), .inl (2, 2)], [((0, 1), .inl (10, 10))], [(some (.inl (128, 128)), [.inr (.inr 12), .inl (2, 2)], [])], [])
def kx259_a : List fx_N := []
def kx259_s : List fx_D := []
def kx259_x : fx_X := ([], [(37, 1, 1)], [], [], [], [])
set_option maxRecDepth 100000 in
theorem kx259_k : fx_chk TX 2 kx259_c 0 kx259_x t_X2_bitOf kx259_a kx259_s 11 = true := by decide +kernel
set_option maxRecDepth 100000 in
theorem kx259 {l : Launch} {E : (Nat → Prop) → State → Prop} {ad : List Nat} {D : va_G} {gs : List Nat} {cy : Nat → ClassId} (h : fx_env E D classes (tys cy) nestW) : fx_Met l yX2_bitOf (.code yX2_bitOf cX2_bitOf 2 (some .int) :: wsL_law) ({ frames := 0, cells := 0, slots := 0, locals := 0 }) E (gs, TX, cy, fun _ => True) ad D classes kx259_c :=
  fx_sound (x := kx259_x) (tb := t_X2_bitOf) (an := kx259_a) (sp := kx259_s) (rk := 0) 11 h (fun _ _ _ _ => trivial) (ht_tys cy) (by decide) rfl ⟨fx_an, (fx_ac fl_X2_37 (fx_an)), fx_an, fx_an, fx_an, fx_an⟩ d_X2_bitOf kx259_k
-- X2_bitOf 11 i ('c', 2) ('c', 11)
def kx260_c : fx_C := ([.inr (.inr 12), .inl (2, 2)], [((0, 1), .inl (11, 11))], [(some (.inl (256, 256)), [.inr (.inr 12), .inl (2, 2)], [])], [])
def kx260_a : List fx_N := []
def kx260_s : List fx_D := []
def kx260_x : fx_X := ([], [(37, 1, 1)], [], [], [], [])
set_option maxRecDepth 100000 in
theorem kx260_k : fx_chk TX 2 kx260_c 0 kx260_x t_X2_bitOf kx260_a kx260_s 11 = true := by decide +kernel
set_option maxRecDepth 100000 in
theorem kx260 {l : Launch} {E : (Nat → Prop) → State → Prop} {ad : List Nat} {D : va_G} {gs : List Nat} {cy : Nat → ClassId} (h : fx_env E D classes (tys cy) nestW) : fx_Met l yX2_bitOf (.code yX2_bitOf cX2_bitOf 2 (some .int) :: wsL_law) ({ frames := 0, cells := 0, slots := 0, locals := 0 }) E (gs, TX, cy, fun _ => True) ad D classes kx260_c :=
  fx_sound (x := kx260_x) (tb := t_X2_bitOf) (an := kx260_a) (sp := kx260_s) (rk := 0) 11 h (fun _ _ _ _ => trivial) (ht_tys cy) (by decide) rfl ⟨fx_an, (fx_ac fl_X2_37 (fx_an)), fx_an, fx_an, fx_an, fx_an⟩ d_X2_bitOf kx260_k
-- X2_bitOf 11 i ('c', 2) ('c', 12)
def kx261_c : fx_C := ([.inr (.inr 12), .inl (2, 2)], [((0, 1), .inl (12, 12))], [(some (.inl (512, 512)), [.inr (.inr 12), .inl (2, 2)], [])], [])
def kx261_a : List fx_N := []
def kx261_s : List fx_D := []
def kx261_x : fx_X := ([], [(37, 1, 1)], [], [], [], [])
set_option maxRecDepth 100000 in
theorem kx261_k : fx_chk TX 2 kx261_c 0 kx261_x t_X2_bitOf kx261_a kx261_s 11 = true := by decide +kernel
set_option maxRecDepth 100000 in
theorem kx261 {l : Launch} {E : (Nat → Prop) → State → Prop} {ad : List Nat} {D : va_G} {gs : List Nat} {cy : Nat → ClassId} (h : fx_env E D classes (tys cy) nestW) : fx_Met l yX2_bitOf (.code yX2_bitOf cX2_bitOf 2 (some .int) :: wsL_law) ({ frames := 0, cells := 0, slots := 0, locals := 0 }) E (gs, TX, cy, fun _ => True) ad D classes kx261_c :=
  fx_sound (x := kx261_x) (tb := t_X2_bitOf) (an := kx261_a) (sp := kx261_s) (rk := 0) 11 h (fun _ _ _ _ => trivial) (ht_tys cy) (by decide) rfl ⟨fx_an, (fx_ac fl_X2_37 (fx_an)), fx_an, fx_an, fx_an, fx_an⟩ d_X2_bitOf kx261_k
-- X2_bitOf 11 i ('c', 3) ('c', 4)
def kx262_c : fx_C := ([.inr (.inr 12), .inl (3, 3)], [((0, 1), .inl (4, 4))], [(some (.inl (1, 1)), [.inr (.inr 12), .inl (3, 3)], [])], [])
def kx262_a : List fx_N := []
def kx262_s : List fx_D := []
def kx262_x : fx_X := ([], [(37, 1, 1)], [], [], [], [])
set_option maxRecDepth 100000 in
theorem kx262_k : fx_chk TX 2 kx262_c 0 kx262_x t_X2_bitOf kx262_a kx262_s 11 = true := by decide +kernel
set_option maxRecDepth 100000 in
theorem kx262 {l : Launch} {E : (Nat → Prop) → State → Prop} {ad : List Nat} {D : va_G} {gs : List Nat} {cy : Nat → ClassId} (h : fx_env E D classes (tys cy) nestW) : fx_Met l yX2_bitOf (.code yX2_bitOf cX2_bitOf 2 (some .int) :: wsL_law) ({ frames := 0, cells := 0, slots := 0, locals := 0 }) E (gs, TX, cy, fun _ => True) ad D classes kx262_c :=
  fx_sound (x := kx262_x) (tb := t_X2_bitOf) (an := kx262_a) (sp := kx262_s) (rk := 0) 11 h (fun _ _ _ _ => trivial) (ht_tys cy) (by decide) rfl ⟨fx_an, (fx_ac fl_X2_37 (fx_an)), fx_an, fx_an, fx_an, fx_an⟩ d_X2_bitOf kx262_k
-- X2_bitOf 11 i ('c', 3) ('c', 5)
def kx263_c : fx_C := ([.inr (.inr 12), .inl (3, 3)], [((0, 1), .inl (5, 5))], [(some (.inl (2, 2)), [.inr (.inr 12), .inl (3, 3)], [])], [])
def kx263_a : List fx_N := []
def kx263_s : List fx_D := []
def kx263_x : fx_X := ([], [(37, 1, 1)], [], [], [], [])
set_option maxRecDepth 100000 in
theorem kx263_k : fx_chk TX 2 kx263_c 0 kx263_x t_X2_bitOf kx263_a kx263_s 11 = true := by decide +kernel
set_option maxRecDepth 100000 in
theorem kx263 {l : Launch} {E : (Nat → Prop) → State → Prop} {ad : List Nat} {D : va_G} {gs : List Nat} {cy : Nat → ClassId} (h : fx_env E D classes (tys cy) nestW) : fx_Met l yX2_bitOf (.code yX2_bitOf cX2_bitOf 2 (some .int) :: wsL_law) ({ frames := 0, cells := 0, slots := 0, locals := 0 }) E (gs, TX, cy, fun _ => True) ad D classes kx263_c :=
  fx_sound (x := kx263_x) (tb := t_X2_bitOf) (an := kx263_a) (sp := kx263_s) (rk := 0) 11 h (fun _ _ _ _ => trivial) (ht_tys cy) (by decide) rfl ⟨fx_an, (fx_ac fl_X2_37 (fx_an)), fx_an, fx_an, fx_an, fx_an⟩ d_X2_bitOf kx263_k
-- X2_bitOf 11 i ('c', 3) ('c', 6)
def kx264_c : fx_C := ([.inr (.inr 12), .inl (3, 3)], [((0, 1), .inl (6, 6))], [(some (.inl (4, 4)), [.inr (.inr 12), .inl (3, 3)], [])], [])
def kx264_a : List fx_N := []
def kx264_s : List fx_D := []
def kx264_x : fx_X := ([], [(37, 1, 1)], [], [], [], [])
set_option maxRecDepth 100000 in
theorem kx264_k : fx_chk TX 2 kx264_c 0 kx264_x t_X2_bitOf kx264_a kx264_s 11 = true := by decide +kernel
set_option maxRecDepth 100000 in
theorem kx264 {l : Launch} {E : (Nat → Prop) → State → Prop} {ad : List Nat} {D : va_G} {gs : List Nat} {cy : Nat → ClassId} (h : fx_env E D classes (tys cy) nestW) : fx_Met l yX2_bitOf (.code yX2_bitOf cX2_bitOf 2 (some .int) :: wsL_law) ({ frames := 0, cells := 0, slots := 0, locals := 0 }) E (gs, TX, cy, fun _ => True) ad D classes kx264_c :=
  fx_sound (x := kx264_x) (tb := t_X2_bitOf) (an := kx264_a) (sp := kx264_s) (rk := 0) 11 h (fun _ _ _ _ => trivial) (ht_tys cy) (by decide) rfl ⟨fx_an, (fx_ac fl_X2_37 (fx_an)), fx_an, fx_an, fx_an, fx_an⟩ d_X2_bitOf kx264_k
-- X2_bitOf 11 i ('c', 3) ('c', 7)
def kx265_c : fx_C := ([.inr (.inr 12), .inl (3, 3)], [((0, 1), .inl (7, 7))], [(some (.inl (8, 8)), [.inr (.inr 12), .inl (3, 3)], [])], [])
def kx265_a : List fx_N := []
def kx265_s : List fx_D := []
def kx265_x : fx_X := ([], [(37, 1, 1)], [], [], [], [])
set_option maxRecDepth 100000 in
theorem kx265_k : fx_chk TX 2 kx265_c 0 kx265_x t_X2_bitOf kx265_a kx265_s 11 = true := by decide +kernel
set_option maxRecDepth 100000 in
theorem kx265 {l : Launch} {E : (Nat → Prop) → State → Prop} {ad : List Nat} {D : va_G} {gs : List Nat} {cy : Nat → ClassId} (h : fx_env E D classes (tys cy) nestW) : fx_Met l yX2_bitOf (.code yX2_bitOf cX2_bitOf 2 (some .int) :: wsL_law) ({ frames := 0, cells := 0, slots := 0, locals := 0 }) E (gs, TX, cy, fun _ => True) ad D classes kx265_c :=
  fx_sound (x := kx265_x) (tb := t_X2_bitOf) (an := kx265_a) (sp := kx265_s) (rk := 0) 11 h (fun _ _ _ _ => trivial) (ht_tys cy) (by decide) rfl ⟨fx_an, (fx_ac fl_X2_37 (fx_an)), fx_an, fx_an, fx_an, fx_an⟩ d_X2_bitOf kx265_k
-- X2_bitOf 11 i ('c', 3) ('c', 8)
def kx266_c : fx_C := ([.inr (.inr 12), .inl (3, 3)], [((0, 1), .inl (8, 8))], [(some (.inl (16, 16)), [.inr (.inr 12), .inl (3, 3)], [])], [])
def kx266_a : List fx_N := []
def kx266_s : List fx_D := []
def kx266_x : fx_X := ([], [(37, 1, 1)], [], [], [], [])
set_option maxRecDepth 100000 in
theorem kx266_k : fx_chk TX 2 kx266_c 0 kx266_x t_X2_bitOf kx266_a kx266_s 11 = true := by decide +kernel
set_option maxRecDepth 100000 in
theorem kx266 {l : Launch} {E : (Nat → Prop) → State → Prop} {ad : List Nat} {D : va_G} {gs : List Nat} {cy : Nat → ClassId} (h : fx_env E D classes (tys cy) nestW) : fx_Met l yX2_bitOf (.code yX2_bitOf cX2_bitOf 2 (some .int) :: wsL_law) ({ frames := 0, cells := 0, slots := 0, locals := 0 }) E (gs, TX, cy, fun _ => True) ad D classes kx266_c :=
  fx_sound (x := kx266_x) (tb := t_X2_bitOf) (an := kx266_a) (sp := kx266_s) (rk := 0) 11 h (fun _ _ _ _ => trivial) (ht_tys cy) (by decide) rfl ⟨fx_an, (fx_ac fl_X2_37 (fx_an)), fx_an, fx_an, fx_an, fx_an⟩ d_X2_bitOf kx266_k
-- X2_bitOf 11 i ('c', 3) ('c', 9)
def kx267_c : fx_C := ([.inr (.inr 12), .inl (3, 3)], [((0, 1), .inl (9, 9))], [(some (.inl (32, 32)), [.inr (.inr 12), .inl (3, 3)], [])], [])
def kx267_a : List fx_N := []
def kx267_s : List fx_D := []
def kx267_x : fx_X := ([], [(37, 1, 1)], [], [], [], [])
set_option maxRecDepth 100000 in
theorem kx267_k : fx_chk TX 2 kx267_c 0 kx267_x t_X2_bitOf kx267_a kx267_s 11 = true := by decide +kernel
set_option maxRecDepth 100000 in
theorem kx267 {l : Launch} {E : (Nat → Prop) → State → Prop} {ad : List Nat} {D : va_G} {gs : List Nat} {cy : Nat → ClassId} (h : fx_env E D classes (tys cy) nestW) : fx_Met l yX2_bitOf (.code yX2_bitOf cX2_bitOf 2 (some .int) :: wsL_law) ({ frames := 0, cells := 0, slots := 0, locals := 0 }) E (gs, TX, cy, fun _ => True) ad D classes kx267_c :=
  fx_sound (x := kx267_x) (tb := t_X2_bitOf) (an := kx267_a) (sp := kx267_s) (rk := 0) 11 h (fun _ _ _ _ => trivial) (ht_tys cy) (by decide) rfl ⟨fx_an, (fx_ac fl_X2_37 (fx_an)), fx_an, fx_an, fx_an, fx_an⟩ d_X2_bitOf kx267_k
-- X2_bitOf 11 i ('c', 3) ('c', 10)
def kx268_c : fx_C := ([.inr (.inr 12), .inl (3, 3)], [((0, 1), .inl (10, 10))], [(some (.inl (64, 64)), [.inr (.inr 12), .inl (3, 3)], [])], [])
def kx268_a : List fx_N := []
def kx268_s : List fx_D := []
def kx268_x : fx_X := ([], [(37, 1, 1)], [], [], [], [])
set_option maxRecDepth 100000 in
theorem kx268_k : fx_chk TX 2 kx268_c 0 kx268_x t_X2_bitOf kx268_a kx268_s 11 = true := by decide +kernel
set_option maxRecDepth 100000 in
theorem kx268 {l : Launch} {E : (Nat → Prop) → State → Prop} {ad : List Nat} {D : va_G} {gs : List Nat} {cy : Nat → ClassId} (h : fx_env E D classes (tys cy) nestW) : fx_Met l yX2_bitOf (.code yX2_bitOf cX2_bitOf 2 (some .int) :: wsL_law) ({ frames := 0, cells := 0, slots := 0, locals := 0 }) E (gs, TX, cy, fun _ => True) ad D classes kx268_c :=
  fx_sound (x := kx268_x) (tb := t_X2_bitOf) (an := kx268_a) (sp := kx268_s) (rk := 0) 11 h (fun _ _ _ _ => trivial) (ht_tys cy) (by decide) rfl ⟨fx_an, (fx_ac fl_X2_37 (fx_an)), fx_an, fx_an, fx_an, fx_an⟩ d_X2_bitOf kx268_k
-- X2_bitOf 11 i ('c', 3) ('c', 11)
def kx269_c : fx_C := ([.inr (.inr 12), .inl (3, 3)], [((0, 1), .inl (11, 11))], [(some (.inl (128, 128)), [.inr (.inr 12), .inl (3, 3)], [])], [])
def kx269_a : List fx_N := []
def kx269_s : List fx_D := []
def kx269_x : fx_X := ([], [(37, 1, 1)], [], [], [], [])
set_option maxRecDepth 100000 in
theorem kx269_k : fx_chk TX 2 kx269_c 0 kx269_x t_X2_bitOf kx269_a kx269_s 11 = true := by decide +kernel
set_option maxRecDepth 100000 in
theorem kx269 {l : Launch} {E : (Nat → Prop) → State → Prop} {ad : List Nat} {D : va_G} {gs : List Nat} {cy : Nat → ClassId} (h : fx_env E D classes (tys cy) nestW) : fx_Met l yX2_bitOf (.code yX2_bitOf cX2_bitOf 2 (some .int) :: wsL_law) ({ frames := 0, cells := 0, slots := 0, locals := 0 }) E (gs, TX, cy, fun _ => True) ad D classes kx269_c :=
  fx_sound (x := kx269_x) (tb := t_X2_bitOf) (an := kx269_a) (sp := kx269_s) (rk := 0) 11 h (fun _ _ _ _ => trivial) (ht_tys cy) (by decide) rfl ⟨fx_an, (fx_ac fl_X2_37 (fx_an)), fx_an, fx_an, fx_an, fx_an⟩ d_X2_bitOf kx269_k
-- X2_bitOf 11 i ('c', 3) ('c', 12)
def kx270_c : fx_C := ([.inr (.inr 12), .inl (3, 3)], [((0, 1), .inl (12, 12))], [(some (.inl (256, 256)), [.inr (.inr 12), .inl (3, 3)], [])], [])
def kx270_a : List fx_N := []
def kx270_s : List fx_D := []
def kx270_x : fx_X := ([], [(37, 1, 1)], [], [], [], [])
set_option maxRecDepth 100000 in
theorem kx270_k : fx_chk TX 2 kx270_c 0 kx270_x t_X2_bitOf kx270_a kx270_s 11 = true := by decide +kernel
set_option maxRecDepth 100000 in
theorem kx270 {l : Launch} {E : (Nat → Prop) → State → Prop} {ad : List Nat} {D : va_G} {gs : List Nat} {cy : Nat → ClassId} (h : fx_env E D classes (tys cy) nestW) : fx_Met l yX2_bitOf (.code yX2_bitOf cX2_bitOf 2 (some .int) :: wsL_law) ({ frames := 0, cells := 0, slots := 0, locals := 0 }) E (gs, TX, cy, fun _ => True) ad D classes kx270_c :=
  fx_sound (x := kx270_x) (tb := t_X2_bitOf) (an := kx270_a) (sp := kx270_s) (rk := 0) 11 h (fun _ _ _ _ => trivial) (ht_tys cy) (by decide) rfl ⟨fx_an, (fx_ac fl_X2_37 (fx_an)), fx_an, fx_an, fx_an, fx_an⟩ d_X2_bitOf kx270_k
-- X2_bitOf 11 i ('c', 4) ('c', 5)
def kx271_c : fx_C := ([.inr (.inr 12), .inl (4, 4)], [((0, 1), .inl (5, 5))], [(some (.inl (1, 1)), [.inr (.inr 12), .inl (4, 4)], [])], [])
def kx271_a : List fx_N := []
def kx271_s : List fx_D := []
def kx271_x : fx_X := ([], [(37, 1, 1)], [], [], [], [])
set_option maxRecDepth 100000 in
theorem kx271_k : fx_chk TX 2 kx271_c 0 kx271_x t_X2_bitOf kx271_a kx271_s 11 = true := by decide +kernel
set_option maxRecDepth 100000 in
theorem kx271 {l : Launch} {E : (Nat → Prop) → State → Prop} {ad : List Nat} {D : va_G} {gs : List Nat} {cy : Nat → ClassId} (h : fx_env E D classes (tys cy) nestW) : fx_Met l yX2_bitOf (.code yX2_bitOf cX2_bitOf 2 (some .int) :: wsL_law) ({ frames := 0, cells := 0, slots := 0, locals := 0 }) E (gs, TX, cy, fun _ => True) ad D classes kx271_c :=
  fx_sound (x := kx271_x) (tb := t_X2_bitOf) (an := kx271_a) (sp := kx271_s) (rk := 0) 11 h (fun _ _ _ _ => trivial) (ht_tys cy) (by decide) rfl ⟨fx_an, (fx_ac fl_X2_37 (fx_an)), fx_an, fx_an, fx_an, fx_an⟩ d_X2_bitOf kx271_k
-- X2_bitOf 11 i ('c', 4) ('c', 6)
def kx272_c : fx_C := ([.inr (.inr 12), .inl (4, 4)], [((0, 1), .inl (6, 6))], [(some (.inl (2, 2)), [.inr (.inr 12), .inl (4, 4)], [])], [])
def kx272_a : List fx_N := []
def kx272_s : List fx_D := []
def kx272_x : fx_X := ([], [(37, 1, 1)], [], [], [], [])
set_option maxRecDepth 100000 in
theorem kx272_k : fx_chk TX 2 kx272_c 0 kx272_x t_X2_bitOf kx272_a kx272_s 11 = true := by decide +kernel
set_option maxRecDepth 100000 in
theorem kx272 {l : Launch} {E : (Nat → Prop) → State → Prop} {ad : List Nat} {D : va_G} {gs : List Nat} {cy : Nat → ClassId} (h : fx_env E D classes (tys cy) nestW) : fx_Met l yX2_bitOf (.code yX2_bitOf cX2_bitOf 2 (some .int) :: wsL_law) ({ frames := 0, cells := 0, slots := 0, locals := 0 }) E (gs, TX, cy, fun _ => True) ad D classes kx272_c :=
  fx_sound (x := kx272_x) (tb := t_X2_bitOf) (an := kx272_a) (sp := kx272_s) (rk := 0) 11 h (fun _ _ _ _ => trivial) (ht_tys cy) (by decide) rfl ⟨fx_an, (fx_ac fl_X2_37 (fx_an)), fx_an, fx_an, fx_an, fx_an⟩ d_X2_bitOf kx272_k
-- X2_bitOf 11 i ('c', 4) ('c', 7)
def kx273_c : fx_C := ([.inr (.inr 12), .inl (4, 4)], [((0, 1), .inl (7, 7))], [(some (.inl (4, 4)), [.inr (.inr 12), .inl (4, 4)], [])], [])
def kx273_a : List fx_N := []
def kx273_s : List fx_D := []
def kx273_x : fx_X := ([], [(37, 1, 1)], [], [], [], [])
set_option maxRecDepth 100000 in
theorem kx273_k : fx_chk TX 2 kx273_c 0 kx273_x t_X2_bitOf kx273_a kx273_s 11 = true := by decide +kernel
set_option maxRecDepth 100000 in
theorem kx273 {l : Launch} {E : (Nat → Prop) → State → Prop} {ad : List Nat} {D : va_G} {gs : List Nat} {cy : Nat → ClassId} (h : fx_env E D classes (tys cy) nestW) : fx_Met l yX2_bitOf (.code yX2_bitOf cX2_bitOf 2 (some .int) :: wsL_law) ({ frames := 0, cells := 0, slots := 0, locals := 0 }) E (gs, TX, cy, fun _ => True) ad D classes kx273_c :=
  fx_sound (x := kx273_x) (tb := t_X2_bitOf) (an := kx273_a) (sp := kx273_s) (rk := 0) 11 h (fun _ _ _ _ => trivial) (ht_tys cy) (by decide) rfl ⟨fx_an, (fx_ac fl_X2_37 (fx_an)), fx_an, fx_an, fx_an, fx_an⟩ d_X2_bitOf kx273_k
-- X2_bitOf 11 i ('c', 4) ('c', 8)
def kx274_c : fx_C := ([.inr (.inr 12), .inl (4, 4)], [((0, 1), .inl (8, 8))], [(some (.inl (8, 8)), [.inr (.inr 12), .inl (4, 4)], [])], [])
def kx274_a : List fx_N := []
def kx274_s : List fx_D := []
def kx274_x : fx_X := ([], [(37, 1, 1)], [], [], [], [])
set_option maxRecDepth 100000 in
theorem kx274_k : fx_chk TX 2 kx274_c 0 kx274_x t_X2_bitOf kx274_a kx274_s 11 = true := by decide +kernel
set_option maxRecDepth 100000 in
theorem kx274 {l : Launch} {E : (Nat → Prop) → State → Prop} {ad : List Nat} {D : va_G} {gs : List Nat} {cy : Nat → ClassId} (h : fx_env E D classes (tys cy) nestW) : fx_Met l yX2_bitOf (.code yX2_bitOf cX2_bitOf 2 (some .int) :: wsL_law) ({ frames := 0, cells := 0, slots := 0, locals := 0 }) E (gs, TX, cy, fun _ => True) ad D classes kx274_c :=
  fx_sound (x := kx274_x) (tb := t_X2_bitOf) (an := kx274_a) (sp := kx274_s) (rk := 0) 11 h (fun _ _ _ _ => trivial) (ht_tys cy) (by decide) rfl ⟨fx_an, (fx_ac fl_X2_37 (fx_an)), fx_an, fx_an, fx_an, fx_an⟩ d_X2_bitOf kx274_k
-- X2_bitOf 11 i ('c', 4) ('c', 9)
def kx275_c : fx_C := ([.inr (.inr 12), .inl (4, 4)], [((0, 1), .inl (9, 9))], [(some (.inl (16, 16)), [.inr (.inr 12), .inl (4, 4)], [])], [])
def kx275_a : List fx_N := []
def kx275_s : List fx_D := []
def kx275_x : fx_X := ([], [(37, 1, 1)], [], [], [], [])
set_option maxRecDepth 100000 in
theorem kx275_k : fx_chk TX 2 kx275_c 0 kx275_x t_X2_bitOf kx275_a kx275_s 11 = true := by decide +kernel
set_option maxRecDepth 100000 in
theorem kx275 {l : Launch} {E : (Nat → Prop) → State → Prop} {ad : List Nat} {D : va_G} {gs : List Nat} {cy : Nat → ClassId} (h : fx_env E D classes (tys cy) nestW) : fx_Met l yX2_bitOf (.code yX2_bitOf cX2_bitOf 2 (some .int) :: wsL_law) ({ frames := 0, cells := 0, slots := 0, locals := 0 }) E (gs, TX, cy, fun _ => True) ad D classes kx275_c :=
  fx_sound (x := kx275_x) (tb := t_X2_bitOf) (an := kx275_a) (sp := kx275_s) (rk := 0) 11 h (fun _ _ _ _ => trivial) (ht_tys cy) (by decide) rfl ⟨fx_an, (fx_ac fl_X2_37 (fx_an)), fx_an, fx_an, fx_an, fx_an⟩ d_X2_bitOf kx275_k
-- X2_bitOf 11 i ('c', 4) ('c', 10)
def kx276_c : fx_C := ([.inr (.inr 12), .inl (4, 4)], [((0, 1), .inl (10, 10))], [(some (.inl (32, 32)), [.inr (.inr 12), .inl (4, 4)], [])], [])
def kx276_a : List fx_N := []
def kx276_s : List fx_D := []
def kx276_x : fx_X := ([], [(37, 1, 1)], [], [], [], [])
set_option maxRecDepth 100000 in
theorem kx276_k : fx_chk TX 2 kx276_c 0 kx276_x t_X2_bitOf kx276_a kx276_s 11 = true := by decide +kernel
set_option maxRecDepth 100000 in
theorem kx276 {l : Launch} {E : (Nat → Prop) → State → Prop} {ad : List Nat} {D : va_G} {gs : List Nat} {cy : Nat → ClassId} (h : fx_env E D classes (tys cy) nestW) : fx_Met l yX2_bitOf (.code yX2_bitOf cX2_bitOf 2 (some .int) :: wsL_law) ({ frames := 0, cells := 0, slots := 0, locals := 0 }) E (gs, TX, cy, fun _ => True) ad D classes kx276_c :=
  fx_sound (x := kx276_x) (tb := t_X2_bitOf) (an := kx276_a) (sp := kx276_s) (rk := 0) 11 h (fun _ _ _ _ => trivial) (ht_tys cy) (by decide) rfl ⟨fx_an, (fx_ac fl_X2_37 (fx_an)), fx_an, fx_an, fx_an, fx_an⟩ d_X2_bitOf kx276_k
-- X2_bitOf 11 i ('c', 4) ('c', 11)
def kx277_c : fx_C := ([.inr (.inr 12), .inl (4, 4)], [((0, 1), .inl (11, 11))], [(some (.inl (64, 64)), [.inr (.inr 12), .inl (4, 4)], [])], [])
def kx277_a : List fx_N := []
def kx277_s : List fx_D := []
def kx277_x : fx_X := ([], [(37, 1, 1)], [], [], [], [])
set_option maxRecDepth 100000 in
theorem kx277_k : fx_chk TX 2 kx277_c 0 kx277_x t_X2_bitOf kx277_a kx277_s 11 = true := by decide +kernel
set_option maxRecDepth 100000 in
theorem kx277 {l : Launch} {E : (Nat → Prop) → State → Prop} {ad : List Nat} {D : va_G} {gs : List Nat} {cy : Nat → ClassId} (h : fx_env E D classes (tys cy) nestW) : fx_Met l yX2_bitOf (.code yX2_bitOf cX2_bitOf 2 (some .int) :: wsL_law) ({ frames := 0, cells := 0, slots := 0, locals := 0 }) E (gs, TX, cy, fun _ => True) ad D classes kx277_c :=
  fx_sound (x := kx277_x) (tb := t_X2_bitOf) (an := kx277_a) (sp := kx277_s) (rk := 0) 11 h (fun _ _ _ _ => trivial) (ht_tys cy) (by decide) rfl ⟨fx_an, (fx_ac fl_X2_37 (fx_an)), fx_an, fx_an, fx_an, fx_an⟩ d_X2_bitOf kx277_k
-- X2_bitOf 11 i ('c', 4) ('c', 12)
def kx278_c : fx_C := ([.inr (.inr 12), .inl (4, 4)], [((0, 1), .inl (12, 12))], [(some (.inl (128, 128)), [.inr (.inr 12), .inl (4, 4)], [])], [])
def kx278_a : List fx_N := []
def kx278_s : List fx_D := []
def kx278_x : fx_X := ([], [(37, 1, 1)], [], [], [], [])
set_option maxRecDepth 100000 in
theorem kx278_k : fx_chk TX 2 kx278_c 0 kx278_x t_X2_bitOf kx278_a kx278_s 11 = true := by decide +kernel
set_option maxRecDepth 100000 in
theorem kx278 {l : Launch} {E : (Nat → Prop) → State → Prop} {ad : List Nat} {D : va_G} {gs : List Nat} {cy : Nat → ClassId} (h : fx_env E D classes (tys cy) nestW) : fx_Met l yX2_bitOf (.code yX2_bitOf cX2_bitOf 2 (some .int) :: wsL_law) ({ frames := 0, cells := 0, slots := 0, locals := 0 }) E (gs, TX, cy, fun _ => True) ad D classes kx278_c :=
  fx_sound (x := kx278_x) (tb := t_X2_bitOf) (an := kx278_a) (sp := kx278_s) (rk := 0) 11 h (fun _ _ _ _ => trivial) (ht_tys cy) (by decide) rfl ⟨fx_an, (fx_ac fl_X2_37 (fx_an)), fx_an, fx_an, fx_an, fx_an⟩ d_X2_bitOf kx278_k
-- X2_bitOf 11 i ('c', 5) ('c', 6)
def kx279_c : fx_C := ([.inr (.inr 12), .inl (5, 5)], [((0, 1), .inl (6, 6))], [(some (.inl (1, 1)), [.inr (.inr 12), .inl (5, 5)], [])], [])
def kx279_a : List fx_N := []
def kx279_s : List fx_D := []
def kx279_x : fx_X := ([], [(37, 1, 1)], [], [], [], [])
set_option maxRecDepth 100000 in
theorem kx279_k : fx_chk TX 2 kx279_c 0 kx279_x t_X2_bitOf kx279_a kx279_s 11 = true := by decide +kernel
set_option maxRecDepth 100000 in
theorem kx279 {l : Launch} {E : (Nat → Prop) → State → Prop} {ad : List Nat} {D : va_G} {gs : List Nat} {cy : Nat → ClassId} (h : fx_env E D classes (tys cy) nestW) : fx_Met l yX2_bitOf (.code yX2_bitOf cX2_bitOf 2 (some .int) :: wsL_law) ({ frames := 0, cells := 0, slots := 0, locals := 0 }) E (gs, TX, cy, fun _ => True) ad D classes kx279_c :=
  fx_sound (x := kx279_x) (tb := t_X2_bitOf) (an := kx279_a) (sp := kx279_s) (rk := 0) 11 h (fun _ _ _ _ => trivial) (ht_tys cy) (by decide) rfl ⟨fx_an, (fx_ac fl_X2_37 (fx_an)), fx_an, fx_an, fx_an, fx_an⟩ d_X2_bitOf kx279_k
-- X2_bitOf 11 i ('c', 5) ('c', 7)
def kx280_c : fx_C := ([.inr (.inr 12), .inl (5, 5)], [((0, 1), .inl (7, 7))], [(some (.inl (2, 2)), [.inr (.inr 12), .inl (5, 5)], [])], [])
def kx280_a : List fx_N := []
def kx280_s : List fx_D := []
def kx280_x : fx_X := ([], [(37, 1, 1)], [], [], [], [])
set_option maxRecDepth 100000 in
theorem kx280_k : fx_chk TX 2 kx280_c 0 kx280_x t_X2_bitOf kx280_a kx280_s 11 = true := by decide +kernel
set_option maxRecDepth 100000 in
theorem kx280 {l : Launch} {E : (Nat → Prop) → State → Prop} {ad : List Nat} {D : va_G} {gs : List Nat} {cy : Nat → ClassId} (h : fx_env E D classes (tys cy) nestW) : fx_Met l yX2_bitOf (.code yX2_bitOf cX2_bitOf 2 (some .int) :: wsL_law) ({ frames := 0, cells := 0, slots := 0, locals := 0 }) E (gs, TX, cy, fun _ => True) ad D classes kx280_c :=
  fx_sound (x := kx280_x) (tb := t_X2_bitOf) (an := kx280_a) (sp := kx280_s) (rk := 0) 11 h (fun _ _ _ _ => trivial) (ht_tys cy) (by decide) rfl ⟨fx_an, (fx_ac fl_X2_37 (fx_an)), fx_an, fx_an, fx_an, fx_an⟩ d_X2_bitOf kx280_k
-- X2_bitOf 11 i ('c', 5) ('c', 8)
def kx281_c : fx_C := ([.inr (.inr 12), .inl (5, 5)], [((0, 1), .inl (8, 8))], [(some (.inl (4, 4)), [.inr (.inr 12), .inl (5, 5)], [])], [])
def kx281_a : List fx_N := []
def kx281_s : List fx_D := []
def kx281_x : fx_X := ([], [(37, 1, 1)], [], [], [], [])
set_option maxRecDepth 100000 in
theorem kx281_k : fx_chk TX 2 kx281_c 0 kx281_x t_X2_bitOf kx281_a kx281_s 11 = true := by decide +kernel
set_option maxRecDepth 100000 in
theorem kx281 {l : Launch} {E : (Nat → Prop) → State → Prop} {ad : List Nat} {D : va_G} {gs : List Nat} {cy : Nat → ClassId} (h : fx_env E D classes (tys cy) nestW) : fx_Met l yX2_bitOf (.code yX2_bitOf cX2_bitOf 2 (some .int) :: wsL_law) ({ frames := 0, cells := 0, slots := 0, locals := 0 }) E (gs, TX, cy, fun _ => True) ad D classes kx281_c :=
  fx_sound (x := kx281_x) (tb := t_X2_bitOf) (an := kx281_a) (sp := kx281_s) (rk := 0) 11 h (fun _ _ _ _ => trivial) (ht_tys cy) (by decide) rfl ⟨fx_an, (fx_ac fl_X2_37 (fx_an)), fx_an, fx_an, fx_an, fx_an⟩ d_X2_bitOf kx281_k
-- X2_bitOf 11 i ('c', 5) ('c', 9)
def kx282_c : fx_C := ([.inr (.inr 12), .inl (5, 5)], [((0, 1), .inl (9, 9))], [(some (.inl (8, 8)), [.inr (.inr 12), .inl (5, 5)], [])], [])
def kx282_a : List fx_N := []
def kx282_s : List fx_D := []
def kx282_x : fx_X := ([], [(37, 1, 1)], [], [], [], [])
set_option maxRecDepth 100000 in
theorem kx282_k : fx_chk TX 2 kx282_c 0 kx282_x t_X2_bitOf kx282_a kx282_s 11 = true := by decide +kernel
set_option maxRecDepth 100000 in
theorem kx282 {l : Launch} {E : (Nat → Prop) → State → Prop} {ad : List Nat} {D : va_G} {gs : List Nat} {cy : Nat → ClassId} (h : fx_env E D classes (tys cy) nestW) : fx_Met l yX2_bitOf (.code yX2_bitOf cX2_bitOf 2 (some .int) :: wsL_law) ({ frames := 0, cells := 0, slots := 0, locals := 0 }) E (gs, TX, cy, fun _ => True) ad D classes kx282_c :=
  fx_sound (x := kx282_x) (tb := t_X2_bitOf) (an := kx282_a) (sp := kx282_s) (rk := 0) 11 h (fun _ _ _ _ => trivial) (ht_tys cy) (by decide) rfl ⟨fx_an, (fx_ac fl_X2_37 (fx_an)), fx_an, fx_an, fx_an, fx_an⟩ d_X2_bitOf kx282_k
-- X2_bitOf 11 i ('c', 5) ('c', 10)
def kx283_c : fx_C := ([.inr (.inr 12), .inl (5, 5)], [((0, 1), .inl (10, 10))], [(some (.inl (16, 16)), [.inr (.inr 12), .inl (5, 5)], [])], [])
def kx283_a : List fx_N := []
def kx283_s : List fx_D := []
def kx283_x : fx_X := ([], [(37, 1, 1)], [], [], [], [])
set_option maxRecDepth 100000 in
theorem kx283_k : fx_chk TX 2 kx283_c 0 kx283_x t_X2_bitOf kx283_a kx283_s 11 = true := by decide +kernel
set_option maxRecDepth 100000 in
theorem kx283 {l : Launch} {E : (Nat → Prop) → State → Prop} {ad : List Nat} {D : va_G} {gs : List Nat} {cy : Nat → ClassId} (h : fx_env E D classes (tys cy) nestW) : fx_Met l yX2_bitOf (.code yX2_bitOf cX2_bitOf 2 (some .int) :: wsL_law) ({ frames := 0, cells := 0, slots := 0, locals := 0 }) E (gs, TX, cy, fun _ => True) ad D classes kx283_c :=
  fx_sound (x := kx283_x) (tb := t_X2_bitOf) (an := kx283_a) (sp := kx283_s) (rk := 0) 11 h (fun _ _ _ _ => trivial) (ht_tys cy) (by decide) rfl ⟨fx_an, (fx_ac fl_X2_37 (fx_an)), fx_an, fx_an, fx_an, fx_an⟩ d_X2_bitOf kx283_k
-- X2_bitOf 11 i ('c', 5) ('c', 11)
def kx284_c : fx_C := ([.inr (.inr 12), .inl (5, 5)], [((0, 1), .inl (11, 11))], [(some (.inl (32, 32)), [.inr (.inr 12), .inl (5, 5)], [])], [])
def kx284_a : List fx_N := []
def kx284_s : List fx_D := []
def kx284_x : fx_X := ([], [(37, 1, 1)], [], [], [], [])
set_option maxRecDepth 100000 in
theorem kx284_k : fx_chk TX 2 kx284_c 0 kx284_x t_X2_bitOf kx284_a kx284_s 11 = true := by decide +kernel
set_option maxRecDepth 100000 in
theorem kx284 {l : Launch} {E : (Nat → Prop) → State → Prop} {ad : List Nat} {D : va_G} {gs : List Nat} {cy : Nat → ClassId} (h : fx_env E D classes (tys cy) nestW) : fx_Met l yX2_bitOf (.code yX2_bitOf cX2_bitOf 2 (some .int) :: wsL_law) ({ frames := 0, cells := 0, slots := 0, locals := 0 }) E (gs, TX, cy, fun _ => True) ad D classes kx284_c :=
  fx_sound (x := kx284_x) (tb := t_X2_bitOf) (an := kx284_a) (sp := kx284_s) (rk := 0) 11 h (fun _ _ _ _ => trivial) (ht_tys cy) (by decide) rfl ⟨fx_an, (fx_ac fl_X2_37 (fx_an)), fx_an, fx_an, fx_an, fx_an⟩ d_X2_bitOf kx284_k
-- X2_bitOf 11 i ('c', 5) ('c', 12)
def kx285_c : fx_C := ([.inr (.inr 12), .inl (5, 5)], [((0, 1), .inl (12, 12))], [(some (.inl (64, 64)), [.inr (.inr 12), .inl (5, 5)], [])], [])
def kx285_a : List fx_N := []
def kx285_s : List fx_D := []
def kx285_x : fx_X := ([], [(37, 1, 1)], [], [], [], [])
set_option maxRecDepth 100000 in
theorem kx285_k : fx_chk TX 2 kx285_c 0 kx285_x t_X2_bitOf kx285_a kx285_s 11 = true := by decide +kernel
set_option maxRecDepth 100000 in
theorem kx285 {l : Launch} {E : (Nat → Prop) → State → Prop} {ad : List Nat} {D : va_G} {gs : List Nat} {cy : Nat → ClassId} (h : fx_env E D classes (tys cy) nestW) : fx_Met l yX2_bitOf (.code yX2_bitOf cX2_bitOf 2 (some .int) :: wsL_law) ({ frames := 0, cells := 0, slots := 0, locals := 0 }) E (gs, TX, cy, fun _ => True) ad D classes kx285_c :=
  fx_sound (x := kx285_x) (tb := t_X2_bitOf) (an := kx285_a) (sp := kx285_s) (rk := 0) 11 h (fun _ _ _ _ => trivial) (ht_tys cy) (by decide) rfl ⟨fx_an, (fx_ac fl_X2_37 (fx_an)), fx_an, fx_an, fx_an, fx_an⟩ d_X2_bitOf kx285_k
-- X2_bitOf 11 i ('c', 6) ('c', 7)
def kx286_c : fx_C := ([.inr (.inr 12), .inl (6, 6)], [((0, 1), .inl (7, 7))], [(some (.inl (1, 1)), [.inr (.inr 12), .inl (6, 6)], [])], [])
def kx286_a : List fx_N := []
def kx286_s : List fx_D := []
def kx286_x : fx_X := ([], [(37, 1, 1)], [], [], [], [])
set_option maxRecDepth 100000 in
theorem kx286_k : fx_chk TX 2 kx286_c 0 kx286_x t_X2_bitOf kx286_a kx286_s 11 = true := by decide +kernel
set_option maxRecDepth 100000 in
theorem kx286 {l : Launch} {E : (Nat → Prop) → State → Prop} {ad : List Nat} {D : va_G} {gs : List Nat} {cy : Nat → ClassId} (h : fx_env E D classes (tys cy) nestW) : fx_Met l yX2_bitOf (.code yX2_bitOf cX2_bitOf 2 (some .int) :: wsL_law) ({ frames := 0, cells := 0, slots := 0, locals := 0 }) E (gs, TX, cy, fun _ => True) ad D classes kx286_c :=
  fx_sound (x := kx286_x) (tb := t_X2_bitOf) (an := kx286_a) (sp := kx286_s) (rk := 0) 11 h (fun _ _ _ _ => trivial) (ht_tys cy) (by decide) rfl ⟨fx_an, (fx_ac fl_X2_37 (fx_an)), fx_an, fx_an, fx_an, fx_an⟩ d_X2_bitOf kx286_k
-- X2_bitOf 11 i ('c', 6) ('c', 8)
def kx287_c : fx_C := ([.inr (.inr 12), .inl (6, 6)], [((0, 1), .inl (8, 8))], [(some (.inl (2, 2)), [.inr (.inr 12), .inl (6, 6)], [])], [])
def kx287_a : List fx_N := []
def kx287_s : List fx_D := []
def kx287_x : fx_X := ([], [(37, 1, 1)], [], [], [], [])
set_option maxRecDepth 100000 in
theorem kx287_k : fx_chk TX 2 kx287_c 0 kx287_x t_X2_bitOf kx287_a kx287_s 11 = true := by decide +kernel
set_option maxRecDepth 100000 in
theorem kx287 {l : Launch} {E : (Nat → Prop) → State → Prop} {ad : List Nat} {D : va_G} {gs : List Nat} {cy : Nat → ClassId} (h : fx_env E D classes (tys cy) nestW) : fx_Met l yX2_bitOf (.code yX2_bitOf cX2_bitOf 2 (some .int) :: wsL_law) ({ frames := 0, cells := 0, slots := 0, locals := 0 }) E (gs, TX, cy, fun _ => True) ad D classes kx287_c :=
  fx_sound (x := kx287_x) (tb := t_X2_bitOf) (an := kx287_a) (sp := kx287_s) (rk := 0) 11 h (fun _ _ _ _ => trivial) (ht_tys cy) (by decide) rfl ⟨fx_an, (fx_ac fl_X2_37 (fx_an)), fx_an, fx_an, fx_an, fx_an⟩ d_X2_bitOf kx287_k
-- X2_bitOf 11 i ('c', 6) ('c', 9)
def kx288_c : fx_C := ([.inr (.inr 12), .inl (6, 6)], [((0, 1), .inl (9, 9))], [(some (.inl (4, 4)), [.inr (.inr 12), .inl (6, 6)], [])], [])
def kx288_a : List fx_N := []
def kx288_s : List fx_D := []
def kx288_x : fx_X := ([], [(37, 1, 1)], [], [], [], [])
set_option maxRecDepth 100000 in
theorem kx288_k : fx_chk TX 2 kx288_c 0 kx288_x t_X2_bitOf kx288_a kx288_s 11 = true := by decide +kernel
set_option maxRecDepth 100000 in
theorem kx288 {l : Launch} {E : (Nat → Prop) → State → Prop} {ad : List Nat} {D : va_G} {gs : List Nat} {cy : Nat → ClassId} (h : fx_env E D classes (tys cy) nestW) : fx_Met l yX2_bitOf (.code yX2_bitOf cX2_bitOf 2 (some .int) :: wsL_law) ({ frames := 0, cells := 0, slots := 0, locals := 0 }) E (gs, TX, cy, fun _ => True) ad D classes kx288_c :=
  fx_sound (x := kx288_x) (tb := t_X2_bitOf) (an := kx288_a) (sp := kx288_s) (rk := 0) 11 h (fun _ _ _ _ => trivial) (ht_tys cy) (by decide) rfl ⟨fx_an, (fx_ac fl_X2_37 (fx_an)), fx_an, fx_an, fx_an, fx_an⟩ d_X2_bitOf kx288_k
-- X2_bitOf 11 i ('c', 6) ('c', 10)
def kx289_c : fx_C := ([.inr (.inr 12), .inl (6, 6)], [((0, 1), .inl (10, 10))], [(some (.inl (8, 8)), [.inr (.inr 12), .inl (6, 6)], [])], [])
def kx289_a : List fx_N := []
def kx289_s : List fx_D := []
def kx289_x : fx_X := ([], [(37, 1, 1)], [], [], [], [])
set_option maxRecDepth 100000 in
theorem kx289_k : fx_chk TX 2 kx289_c 0 kx289_x t_X2_bitOf kx289_a kx289_s 11 = true := by decide +kernel
set_option maxRecDepth 100000 in
theorem kx289 {l : Launch} {E : (Nat → Prop) → State → Prop} {ad : List Nat} {D : va_G} {gs : List Nat} {cy : Nat → ClassId} (h : fx_env E D classes (tys cy) nestW) : fx_Met l yX2_bitOf (.code yX2_bitOf cX2_bitOf 2 (some .int) :: wsL_law) ({ frames := 0, cells := 0, slots := 0, locals := 0 }) E (gs, TX, cy, fun _ => True) ad D classes kx289_c :=
  fx_sound (x := kx289_x) (tb := t_X2_bitOf) (an := kx289_a) (sp := kx289_s) (rk := 0) 11 h (fun _ _ _ _ => trivial) (ht_tys cy) (by decide) rfl ⟨fx_an, (fx_ac fl_X2_37 (fx_an)), fx_an, fx_an, fx_an, fx_an⟩ d_X2_bitOf kx289_k
-- X2_bitOf 11 i ('c', 6) ('c', 11)
def kx290_c : fx_C := ([.inr (.inr 12), .inl (6, 6)], [((0, 1), .inl (11, 11))], [(some (.inl (16, 16)), [.inr (.inr 12), .inl (6, 6)], [])], [])
def kx290_a : List fx_N := []
def kx290_s : List fx_D := []
def kx290_x : fx_X := ([], [(37, 1, 1)], [], [], [], [])
set_option maxRecDepth 100000 in
theorem kx290_k : fx_chk TX 2 kx290_c 0 kx290_x t_X2_bitOf kx290_a kx290_s 11 = true := by decide +kernel
set_option maxRecDepth 100000 in
theorem kx290 {l : Launch} {E : (Nat → Prop) → State → Prop} {ad : List Nat} {D : va_G} {gs : List Nat} {cy : Nat → ClassId} (h : fx_env E D classes (tys cy) nestW) : fx_Met l yX2_bitOf (.code yX2_bitOf cX2_bitOf 2 (some .int) :: wsL_law) ({ frames := 0, cells := 0, slots := 0, locals := 0 }) E (gs, TX, cy, fun _ => True) ad D classes kx290_c :=
  fx_sound (x := kx290_x) (tb := t_X2_bitOf) (an := kx290_a) (sp := kx290_s) (rk := 0) 11 h (fun _ _ _ _ => trivial) (ht_tys cy) (by decide) rfl ⟨fx_an, (fx_ac fl_X2_37 (fx_an)), fx_an, fx_an, fx_an, fx_an⟩ d_X2_bitOf kx290_k
-- X2_bitOf 11 i ('c', 6) ('c', 12)
def kx291_c : fx_C := ([.inr (.inr 12), .inl (6, 6)], [((0, 1), .inl (12, 12))], [(some (.inl (32, 32)), [.inr (.inr 12), .inl (6, 6)], [])], [])
def kx291_a : List fx_N := []
def kx291_s : List fx_D := []
def kx291_x : fx_X := ([], [(37, 1, 1)], [], [], [], [])
set_option maxRecDepth 100000 in
theorem kx291_k : fx_chk TX 2 kx291_c 0 kx291_x t_X2_bitOf kx291_a kx291_s 11 = true := by decide +kernel
set_option maxRecDepth 100000 in
theorem kx291 {l : Launch} {E : (Nat → Prop) → State → Prop} {ad : List Nat} {D : va_G} {gs : List Nat} {cy : Nat → ClassId} (h : fx_env E D classes (tys cy) nestW) : fx_Met l yX2_bitOf (.code yX2_bitOf cX2_bitOf 2 (some .int) :: wsL_law) ({ frames := 0, cells := 0, slots := 0, locals := 0 }) E (gs, TX, cy, fun _ => True) ad D classes kx291_c :=
  fx_sound (x := kx291_x) (tb := t_X2_bitOf) (an := kx291_a) (sp := kx291_s) (rk := 0) 11 h (fun _ _ _ _ => trivial) (ht_tys cy) (by decide) rfl ⟨fx_an, (fx_ac fl_X2_37 (fx_an)), fx_an, fx_an, fx_an, fx_an⟩ d_X2_bitOf kx291_k
-- X2_bitOf 11 i ('c', 7) ('c', 8)
def kx292_c : fx_C := ([.inr (.inr 12), .inl (7, 7)], [((0, 1), .inl (8, 8))], [(some (.inl (1, 1)), [.inr (.inr 12), .inl (7, 7)], [])], [])
def kx292_a : List fx_N := []
def kx292_s : List fx_D := []
def kx292_x : fx_X := ([], [(37, 1, 1)], [], [], [], [])
set_option maxRecDepth 100000 in
theorem kx292_k : fx_chk TX 2 kx292_c 0 kx292_x t_X2_bitOf kx292_a kx292_s 11 = true := by decide +kernel
set_option maxRecDepth 100000 in
theorem kx292 {l : Launch} {E : (Nat → Prop) → State → Prop} {ad : List Nat} {D : va_G} {gs : List Nat} {cy : Nat → ClassId} (h : fx_env E D classes (tys cy) nestW) : fx_Met l yX2_bitOf (.code yX2_bitOf cX2_bitOf 2 (some .int) :: wsL_law) ({ frames := 0, cells := 0, slots := 0, locals := 0 }) E (gs, TX, cy, fun _ => True) ad D classes kx292_c :=
  fx_sound (x := kx292_x) (tb := t_X2_bitOf) (an := kx292_a) (sp := kx292_s) (rk := 0) 11 h (fun _ _ _ _ => trivial) (ht_tys cy) (by decide) rfl ⟨fx_an, (fx_ac fl_X2_37 (fx_an)), fx_an, fx_an, fx_an, fx_an⟩ d_X2_bitOf kx292_k
-- X2_bitOf 11 i ('c', 7) ('c', 9)
def kx293_c : fx_C := ([.inr (.inr 12), .inl (7, 7)], [((0, 1), .inl (9, 9))], [(some (.inl (2, 2)), [.inr (.inr 12), .inl (7, 7)], [])], [])
def kx293_a : List fx_N := []
def kx293_s : List fx_D := []
def kx293_x : fx_X := ([], [(37, 1, 1)], [], [], [], [])
set_option maxRecDepth 100000 in
theorem kx293_k : fx_chk TX 2 kx293_c 0 kx293_x t_X2_bitOf kx293_a kx293_s 11 = true := by decide +kernel
set_option maxRecDepth 100000 in
theorem kx293 {l : Launch} {E : (Nat → Prop) → State → Prop} {ad : List Nat} {D : va_G} {gs : List Nat} {cy : Nat → ClassId} (h : fx_env E D classes (tys cy) nestW) : fx_Met l yX2_bitOf (.code yX2_bitOf cX2_bitOf 2 (some .int) :: wsL_law) ({ frames := 0, cells := 0, slots := 0, locals := 0 }) E (gs, TX, cy, fun _ => True) ad D classes kx293_c :=
  fx_sound (x := kx293_x) (tb := t_X2_bitOf) (an := kx293_a) (sp := kx293_s) (rk := 0) 11 h (fun _ _ _ _ => trivial) (ht_tys cy) (by decide) rfl ⟨fx_an, (fx_ac fl_X2_37 (fx_an)), fx_an, fx_an, fx_an, fx_an⟩ d_X2_bitOf kx293_k
-- X2_bitOf 11 i ('c', 7) ('c', 10)
def kx294_c : fx_C := ([.inr (.inr 12), .inl (7, 7)], [((0, 1), .inl (10, 10))], [(some (.inl (4, 4)), [.inr (.inr 12), .inl (7, 7)], [])], [])
def kx294_a : List fx_N := []
def kx294_s : List fx_D := []
def kx294_x : fx_X := ([], [(37, 1, 1)], [], [], [], [])
set_option maxRecDepth 100000 in
theorem kx294_k : fx_chk TX 2 kx294_c 0 kx294_x t_X2_bitOf kx294_a kx294_s 11 = true := by decide +kernel
set_option maxRecDepth 100000 in
theorem kx294 {l : Launch} {E : (Nat → Prop) → State → Prop} {ad : List Nat} {D : va_G} {gs : List Nat} {cy : Nat → ClassId} (h : fx_env E D classes (tys cy) nestW) : fx_Met l yX2_bitOf (.code yX2_bitOf cX2_bitOf 2 (some .int) :: wsL_law) ({ frames := 0, cells := 0, slots := 0, locals := 0 }) E (gs, TX, cy, fun _ => True) ad D classes kx294_c :=
  fx_sound (x := kx294_x) (tb := t_X2_bitOf) (an := kx294_a) (sp := kx294_s) (rk := 0) 11 h (fun _ _ _ _ => trivial) (ht_tys cy) (by decide) rfl ⟨fx_an, (fx_ac fl_X2_37 (fx_an)), fx_an, fx_an, fx_an, fx_an⟩ d_X2_bitOf kx294_k
-- X2_bitOf 11 i ('c', 7) ('c', 11)
def kx295_c : fx_C := ([.inr (.inr 12), .inl (7, 7)], [((0, 1), .inl (11, 11))], [(some (.inl (8, 8)), [.inr (.inr 12), .inl (7, 7)], [])], [])
def kx295_a : List fx_N := []
def kx295_s : List fx_D := []
def kx295_x : fx_X := ([], [(37, 1, 1)], [], [], [], [])
set_option maxRecDepth 100000 in
theorem kx295_k : fx_chk TX 2 kx295_c 0 kx295_x t_X2_bitOf kx295_a kx295_s 11 = true := by decide +kernel
set_option maxRecDepth 100000 in
theorem kx295 {l : Launch} {E : (Nat → Prop) → State → Prop} {ad : List Nat} {D : va_G} {gs : List Nat} {cy : Nat → ClassId} (h : fx_env E D classes (tys cy) nestW) : fx_Met l yX2_bitOf (.code yX2_bitOf cX2_bitOf 2 (some .int) :: wsL_law) ({ frames := 0, cells := 0, slots := 0, locals := 0 }) E (gs, TX, cy, fun _ => True) ad D classes kx295_c :=
  fx_sound (x := kx295_x) (tb := t_X2_bitOf) (an := kx295_a) (sp := kx295_s) (rk := 0) 11 h (fun _ _ _ _ => trivial) (ht_tys cy) (by decide) rfl ⟨fx_an, (fx_ac fl_X2_37 (fx_an)), fx_an, fx_an, fx_an, fx_an⟩ d_X2_bitOf kx295_k
-- X2_bitOf 11 i ('c', 7) ('c', 12)
def kx296_c : fx_C := ([.inr (.inr 12), .inl (7, 7)], [((0, 1), .inl (12, 12))], [(some (.inl (16, 16)), [.inr (.inr 12), .inl (7, 7)], [])], [])
def kx296_a : List fx_N := []
def kx296_s : List fx_D := []
def kx296_x : fx_X := ([], [(37, 1, 1)], [], [], [], [])
set_option maxRecDepth 100000 in
theorem kx296_k : fx_chk TX 2 kx296_c 0 kx296_x t_X2_bitOf kx296_a kx296_s 11 = true := by decide +kernel
set_option maxRecDepth 100000 in
theorem kx296 {l : Launch} {E : (Nat → Prop) → State → Prop} {ad : List Nat} {D : va_G} {gs : List Nat} {cy : Nat → ClassId} (h : fx_env E D classes (tys cy) nestW) : fx_Met l yX2_bitOf (.code yX2_bitOf cX2_bitOf 2 (some .int) :: wsL_law) ({ frames := 0, cells := 0, slots := 0, locals := 0 }) E (gs, TX, cy, fun _ => True) ad D classes kx296_c :=
  fx_sound (x := kx296_x) (tb := t_X2_bitOf) (an := kx296_a) (sp := kx296_s) (rk := 0) 11 h (fun _ _ _ _ => trivial) (ht_tys cy) (by decide) rfl ⟨fx_an, (fx_ac fl_X2_37 (fx_an)), fx_an, fx_an, fx_an, fx_an⟩ d_X2_bitOf kx296_k
-- X2_bitOf 11 i ('c', 8) ('c', 9)
def kx297_c : fx_C := ([.inr (.inr 12), .inl (8, 8)], [((0, 1), .inl (9, 9))], [(some (.inl (1, 1)), [.inr (.inr 12), .inl (8, 8)], [])], [])
def kx297_a : List fx_N := []
def kx297_s : List fx_D := []
def kx297_x : fx_X := ([], [(37, 1, 1)], [], [], [], [])
set_option maxRecDepth 100000 in
theorem kx297_k : fx_chk TX 2 kx297_c 0 kx297_x t_X2_bitOf kx297_a kx297_s 11 = true := by decide +kernel
set_option maxRecDepth 100000 in
theorem kx297 {l : Launch} {E : (Nat → Prop) → State → Prop} {ad : List Nat} {D : va_G} {gs : List Nat} {cy : Nat → ClassId} (h : fx_env E D classes (tys cy) nestW) : fx_Met l yX2_bitOf (.code yX2_bitOf cX2_bitOf 2 (some .int) :: wsL_law) ({ frames := 0, cells := 0, slots := 0, locals := 0 }) E (gs, TX, cy, fun _ => True) ad D classes kx297_c :=
  fx_sound (x := kx297_x) (tb := t_X2_bitOf) (an := kx297_a) (sp := kx297_s) (rk := 0) 11 h (fun _ _ _ _ => trivial) (ht_tys cy) (by decide) rfl ⟨fx_an, (fx_ac fl_X2_37 (fx_an)), fx_an, fx_an, fx_an, fx_an⟩ d_X2_bitOf kx297_k
-- X2_bitOf 11 i ('c', 8) ('c', 10)
def kx298_c : fx_C := ([.inr (.inr 12), .inl (8, 8)], [((0, 1), .inl (10, 10))], [(some (.inl (2, 2)), [.inr (.inr 12), .inl (8, 8)], [])], [])
def kx298_a : List fx_N := []
def kx298_s : List fx_D := []
def kx298_x : fx_X := ([], [(37, 1, 1)], [], [], [], [])
set_option maxRecDepth 100000 in
theorem kx298_k : fx_chk TX 2 kx298_c 0 kx298_x t_X2_bitOf kx298_a kx298_s 11 = true := by decide +kernel
set_option maxRecDepth 100000 in
theorem kx298 {l : Launch} {E : (Nat → Prop) → State → Prop} {ad : List Nat} {D : va_G} {gs : List Nat} {cy : Nat → ClassId} (h : fx_env E D classes (tys cy) nestW) : fx_Met l yX2_bitOf (.code yX2_bitOf cX2_bitOf 2 (some .int) :: wsL_law) ({ frames := 0, cells := 0, slots := 0, locals := 0 }) E (gs, TX, cy, fun _ => True) ad D classes kx298_c :=
  fx_sound (x := kx298_x) (tb := t_X2_bitOf) (an := kx298_a) (sp := kx298_s) (rk := 0) 11 h (fun _ _ _ _ => trivial) (ht_tys cy) (by decide) rfl ⟨fx_an, (fx_ac fl_X2_37 (fx_an)), fx_an, fx_an, fx_an, fx_an⟩ d_X2_bitOf kx298_k
-- X2_bitOf 11 i ('c', 8) ('c', 11)
def kx299_c : fx_C := ([.inr (.inr 12), .inl (8, 8)], [((0, 1), .inl (11, 11))], [(some (.inl (4, 4)), [.inr (.inr 12), .inl (8, 8)], [])], [])
def kx299_a : List fx_N := []
def kx299_s : List fx_D := []
def kx299_x : fx_X := ([], [(37, 1, 1)], [], [], [], [])
set_option maxRecDepth 100000 in
theorem kx299_k : fx_chk TX 2 kx299_c 0 kx299_x t_X2_bitOf kx299_a kx299_s 11 = true := by decide +kernel
set_option maxRecDepth 100000 in
theorem kx299 {l : Launch} {E : (Nat → Prop) → State → Prop} {ad : List Nat} {D : va_G} {gs : List Nat} {cy : Nat → ClassId} (h : fx_env E D classes (tys cy) nestW) : fx_Met l yX2_bitOf (.code yX2_bitOf cX2_bitOf 2 (some .int) :: wsL_law) ({ frames := 0, cells := 0, slots := 0, locals := 0 }) E (gs, TX, cy, fun _ => True) ad D classes kx299_c :=
  fx_sound (x := kx299_x) (tb := t_X2_bitOf) (an := kx299_a) (sp := kx299_s) (rk := 0) 11 h (fun _ _ _ _ => trivial) (ht_tys cy) (by decide) rfl ⟨fx_an, (fx_ac fl_X2_37 (fx_an)), fx_an, fx_an, fx_an, fx_an⟩ d_X2_bitOf kx299_k
-- X2_bitOf 11 i ('c', 8) ('c', 12)
def kx300_c : fx_C := ([.inr (.inr 12), .inl (8, 8)], [((0, 1), .inl (12, 12))], [(some (.inl (8, 8)), [.inr (.inr 12), .inl (8, 8)], [])], [])
def kx300_a : List fx_N := []
def kx300_s : List fx_D := []
def kx300_x : fx_X := ([], [(37, 1, 1)], [], [], [], [])
set_option maxRecDepth 100000 in
theorem kx300_k : fx_chk TX 2 kx300_c 0 kx300_x t_X2_bitOf kx300_a kx300_s 11 = true := by decide +kernel
set_option maxRecDepth 100000 in
theorem kx300 {l : Launch} {E : (Nat → Prop) → State → Prop} {ad : List Nat} {D : va_G} {gs : List Nat} {cy : Nat → ClassId} (h : fx_env E D classes (tys cy) nestW) : fx_Met l yX2_bitOf (.code yX2_bitOf cX2_bitOf 2 (some .int) :: wsL_law) ({ frames := 0, cells := 0, slots := 0, locals := 0 }) E (gs, TX, cy, fun _ => True) ad D classes kx300_c :=
  fx_sound (x := kx300_x) (tb := t_X2_bitOf) (an := kx300_a) (sp := kx300_s) (rk := 0) 11 h (fun _ _ _ _ => trivial) (ht_tys cy) (by decide) rfl ⟨fx_an, (fx_ac fl_X2_37 (fx_an)), fx_an, fx_an, fx_an, fx_an⟩ d_X2_bitOf kx300_k
-- X2_bitOf 11 i ('c', 9) ('c', 10)
def kx301_c : fx_C := ([.inr (.inr 12), .inl (9, 9)], [((0, 1), .inl (10, 10))], [(some (.inl (1, 1)), [.inr (.inr 12), .inl (9, 9)], [])], [])
def kx301_a : List fx_N := []
def kx301_s : List fx_D := []
def kx301_x : fx_X := ([], [(37, 1, 1)], [], [], [], [])
set_option maxRecDepth 100000 in
theorem kx301_k : fx_chk TX 2 kx301_c 0 kx301_x t_X2_bitOf kx301_a kx301_s 11 = true := by decide +kernel
set_option maxRecDepth 100000 in
theorem kx301 {l : Launch} {E : (Nat → Prop) → State → Prop} {ad : List Nat} {D : va_G} {gs : List Nat} {cy : Nat → ClassId} (h : fx_env E D classes (tys cy) nestW) : fx_Met l yX2_bitOf (.code yX2_bitOf cX2_bitOf 2 (some .int) :: wsL_law) ({ frames := 0, cells := 0, slots := 0, locals := 0 }) E (gs, TX, cy, fun _ => True) ad D classes kx301_c :=
  fx_sound (x := kx301_x) (tb := t_X2_bitOf) (an := kx301_a) (sp := kx301_s) (rk := 0) 11 h (fun _ _ _ _ => trivial) (ht_tys cy) (by decide) rfl ⟨fx_an, (fx_ac fl_X2_37 (fx_an)), fx_an, fx_an, fx_an, fx_an⟩ d_X2_bitOf kx301_k
-- X2_bitOf 11 i ('c', 9) ('c', 11)
def kx302_c : fx_C := ([.inr (.inr 12), .inl (9, 9)], [((0, 1), .inl (11, 11))], [(some (.inl (2, 2)), [.inr (.inr 12), .inl (9, 9)], [])], [])
def kx302_a : List fx_N := []
def kx302_s : List fx_D := []
def kx302_x : fx_X := ([], [(37, 1, 1)], [], [], [], [])
set_option maxRecDepth 100000 in
theorem kx302_k : fx_chk TX 2 kx302_c 0 kx302_x t_X2_bitOf kx302_a kx302_s 11 = true := by decide +kernel
set_option maxRecDepth 100000 in
theorem kx302 {l : Launch} {E : (Nat → Prop) → State → Prop} {ad : List Nat} {D : va_G} {gs : List Nat} {cy : Nat → ClassId} (h : fx_env E D classes (tys cy) nestW) : fx_Met l yX2_bitOf (.code yX2_bitOf cX2_bitOf 2 (some .int) :: wsL_law) ({ frames := 0, cells := 0, slots := 0, locals := 0 }) E (gs, TX, cy, fun _ => True) ad D classes kx302_c :=
  fx_sound (x := kx302_x) (tb := t_X2_bitOf) (an := kx302_a) (sp := kx302_s) (rk := 0) 11 h (fun _ _ _ _ => trivial) (ht_tys cy) (by decide) rfl ⟨fx_an, (fx_ac fl_X2_37 (fx_an)), fx_an, fx_an, fx_an, fx_an⟩ d_X2_bitOf kx302_k
-- X2_bitOf 11 i ('c', 9) ('c', 12)
def kx303_c : fx_C := ([.inr (.inr 12), .inl (9, 9)], [((0, 1), .inl (12, 12))], [(some (.inl (4, 4)), [.inr (.inr 12), .inl (9, 9)], [])], [])
def kx303_a : List fx_N := []
def kx303_s : List fx_D := []
def kx303_x : fx_X := ([], [(37, 1, 1)], [], [], [], [])
set_option maxRecDepth 100000 in
theorem kx303_k : fx_chk TX 2 kx303_c 0 kx303_x t_X2_bitOf kx303_a kx303_s 11 = true := by decide +kernel
set_option maxRecDepth 100000 in
theorem kx303 {l : Launch} {E : (Nat → Prop) → State → Prop} {ad : List Nat} {D : va_G} {gs : List Nat} {cy : Nat → ClassId} (h : fx_env E D classes (tys cy) nestW) : fx_Met l yX2_bitOf (.code yX2_bitOf cX2_bitOf 2 (some .int) :: wsL_law) ({ frames := 0, cells := 0, slots := 0, locals := 0 }) E (gs, TX, cy, fun _ => True) ad D classes kx303_c :=
  fx_sound (x := kx303_x) (tb := t_X2_bitOf) (an := kx303_a) (sp := kx303_s) (rk := 0) 11 h (fun _ _ _ _ => trivial) (ht_tys cy) (by decide) rfl ⟨fx_an, (fx_ac fl_X2_37 (fx_an)), fx_an, fx_an, fx_an, fx_an⟩ d_X2_bitOf kx303_k
-- X2_bitOf 11 i ('c', 10) ('c', 11)
def kx304_c : fx_C := ([.inr (.inr 12), .inl (10, 10)], [((0, 1), .inl (11, 11))], [(some (.inl (1, 1)), [.inr (.inr 12), .inl (10, 10)], [])], [])
def kx304_a : List fx_N := []
def kx304_s : List fx_D := []
def kx304_x : fx_X := ([], [(37, 1, 1)], [], [], [], [])
set_option maxRecDepth 100000 in
theorem kx304_k : fx_chk TX 2 kx304_c 0 kx304_x t_X2_bitOf kx304_a kx304_s 11 = true := by decide +kernel
set_option maxRecDepth 100000 in
theorem kx304 {l : Launch} {E : (Nat → Prop) → State → Prop} {ad : List Nat} {D : va_G} {gs : List Nat} {cy : Nat → ClassId} (h : fx_env E D classes (tys cy) nestW) : fx_Met l yX2_bitOf (.code yX2_bitOf cX2_bitOf 2 (some .int) :: wsL_law) ({ frames := 0, cells := 0, slots := 0, locals := 0 }) E (gs, TX, cy, fun _ => True) ad D classes kx304_c :=
  fx_sound (x := kx304_x) (tb := t_X2_bitOf) (an := kx304_a) (sp := kx304_s) (rk := 0) 11 h (fun _ _ _ _ => trivial) (ht_tys cy) (by decide) rfl ⟨fx_an, (fx_ac fl_X2_37 (fx_an)), fx_an, fx_an, fx_an, fx_an⟩ d_X2_bitOf kx304_k
-- X2_bitOf 11 i ('c', 10) ('c', 12)
def kx305_c : fx_C := ([.inr (.inr 12), .inl (10, 10)], [((0, 1), .inl (12, 12))], [(some (.inl (2, 2)), [.inr (.inr 12), .inl (10, 10)], [])], [])
def kx305_a : List fx_N := []
def kx305_s : List fx_D := []
def kx305_x : fx_X := ([], [(37, 1, 1)], [], [], [], [])
set_option maxRecDepth 100000 in
theorem kx305_k : fx_chk TX 2 kx305_c 0 kx305_x t_X2_bitOf kx305_a kx305_s 11 = true := by decide +kernel
set_option maxRecDepth 100000 in
theorem kx305 {l : Launch} {E : (Nat → Prop) → State → Prop} {ad : List Nat} {D : va_G} {gs : List Nat} {cy : Nat → ClassId} (h : fx_env E D classes (tys cy) nestW) : fx_Met l yX2_bitOf (.code yX2_bitOf cX2_bitOf 2 (some .int) :: wsL_law) ({ frames := 0, cells := 0, slots := 0, locals := 0 }) E (gs, TX, cy, fun _ => True) ad D classes kx305_c :=
  fx_sound (x := kx305_x) (tb := t_X2_bitOf) (an := kx305_a) (sp := kx305_s) (rk := 0) 11 h (fun _ _ _ _ => trivial) (ht_tys cy) (by decide) rfl ⟨fx_an, (fx_ac fl_X2_37 (fx_an)), fx_an, fx_an, fx_an, fx_an⟩ d_X2_bitOf kx305_k
-- X2_bitOf 11 i ('c', 11) ('c', 12)
def kx306_c : fx_C := ([.inr (.inr 12), .inl (11, 11)], [((0, 1), .inl (12, 12))], [(some (.inl (1, 1)), [.inr (.inr 12), .inl (11, 11)], [])], [])
def kx306_a : List fx_N := []
def kx306_s : List fx_D := []
def kx306_x : fx_X := ([], [(37, 1, 1)], [], [], [], [])
set_option maxRecDepth 100000 in
theorem kx306_k : fx_chk TX 2 kx306_c 0 kx306_x t_X2_bitOf kx306_a kx306_s 11 = true := by decide +kernel
set_option maxRecDepth 100000 in
theorem kx306 {l : Launch} {E : (Nat → Prop) → State → Prop} {ad : List Nat} {D : va_G} {gs : List Nat} {cy : Nat → ClassId} (h : fx_env E D classes (tys cy) nestW) : fx_Met l yX2_bitOf (.code yX2_bitOf cX2_bitOf 2 (some .int) :: wsL_law) ({ frames := 0, cells := 0, slots := 0, locals := 0 }) E (gs, TX, cy, fun _ => True) ad D classes kx306_c :=
  fx_sound (x := kx306_x) (tb := t_X2_bitOf) (an := kx306_a) (sp := kx306_s) (rk := 0) 11 h (fun _ _ _ _ => trivial) (ht_tys cy) (by decide) rfl ⟨fx_an, (fx_ac fl_X2_37 (fx_an)), fx_an, fx_an, fx_an, fx_an⟩ d_X2_bitOf kx306_k
