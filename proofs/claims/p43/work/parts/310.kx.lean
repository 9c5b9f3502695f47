-- X2_playDuel 4 8 11 i
def kx308_c : fx_C := ([.inr (.inr 5), .inr (.inr 9), .inr (.inr 12), .inl (1, 4)], [], [(none, [.inr (.inr 5), .inr (.inr 9), .inr (.inr 12), .inl (1, 4)], [])], [(1000, 35)])
def kx308_a : List fx_N := [(6, [(0, .inr (.inr 5)), (1, .inr (.inr 9)), (2, .inr (.inr 12)), (3, .inl (1, 4)), (4, .inl (-1, 4095))], [], [(0, 0), (2, 4), (0, 0)], [(0, 0), (1, 1), (2, 2), (3, 3)])]
def kx308_s : List fx_D := []
def kx308_x : fx_X := ([], [(11, 2, 0)], [], [], [], [(1, 15, 1000, kx219_c), (13, 19, 1000, kx220_c), (35, 25, 2, kx222_c), (70, 33, 2, kx307_c)])
set_option maxRecDepth 100000 in
theorem kx308_k : fx_chk TX 6 kx308_c 9 kx308_x t_X2_playDuel kx308_a kx308_s 30 = true := by decide +kernel
set_option maxRecDepth 100000 in
theorem kx308 {l : Launch} {E : (Nat → Prop) → State → Prop} {ad : List Nat} {D : va_G} {gs : List Nat} {cy : Nat → ClassId} (h : fx_env E D classes (tys cy) nestW) : fx_Met l yX2_playDuel (.code yX2_playDuel cX2_playDuel 6 none :: wsL_law) ({ frames := 3, cells := 0, slots := 0, locals := 71 }) E (gs, TX, cy, fun _ => True) ad D classes kx308_c :=
  fx_sound (x := kx308_x) (tb := t_X2_playDuel) (an := kx308_a) (sp := kx308_s) (rk := 9) 30 h (fun _ _ _ _ => trivial) (ht_tys cy) (by decide) rfl ⟨fx_an, (fx_ac fl_X2_11 (fx_an)), fx_an, fx_an, fx_an, (fx_ac (ev_S (kx219 h) ⟨by decide, by decide⟩ iS_X2_lastSet g_X2_15) (fx_ac (ev_S (kx220 h) ⟨by decide, by decide⟩ iS_J6_bitCount_0f7a4 g_X2_19) (fx_ac (ev_V (kx222 h) (by decide) rfl ⟨by decide, by decide⟩ iV_X2_senseWithout g_X2_25) (fx_ac (ev_V (kx307 h) (by decide) rfl ⟨by decide, by decide⟩ iV_X2_bestTurn g_X2_33) (fx_an)))))⟩ d_X2_playDuel kx308_k
-- X2_duelSense 4
def kx309_c : fx_C := ([.inr (.inr 5)], [], [(some (.inl (-2147483648, 2147483647)), [.inr (.inr 5)], [])], [])
def kx309_a : List fx_N := []
def kx309_s : List fx_D := []
def kx309_x : fx_X := ([], [(11, 2, 0)], [], [], [], [])
set_option maxRecDepth 100000 in
theorem kx309_k : fx_chk TX 1 kx309_c 0 kx309_x t_X2_duelSense kx309_a kx309_s 7 = true := by decide +kernel
set_option maxRecDepth 100000 in
theorem kx309 {l : Launch} {E : (Nat → Prop) → State → Prop} {ad : List Nat} {D : va_G} {gs : List Nat} {cy : Nat → ClassId} (h : fx_env E D classes (tys cy) nestW) : fx_Met l yX2_duelSense (.code yX2_duelSense cX2_duelSense 1 (some .int) :: wsL_law) ({ frames := 0, cells := 0, slots := 0, locals := 0 }) E (gs, TX, cy, fun _ => True) ad D classes kx309_c :=
  fx_sound (x := kx309_x) (tb := t_X2_duelSense) (an := kx309_a) (sp := kx309_s) (rk := 0) 7 h (fun _ _ _ _ => trivial) (ht_tys cy) (by decide) rfl ⟨fx_an, (fx_ac fl_X2_11 (fx_an)), fx_an, fx_an, fx_an, fx_an⟩ d_X2_duelSense kx309_k
