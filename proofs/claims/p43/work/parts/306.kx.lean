-- X4_cellBehind 3 i i
def kx184_c : fx_C := ([.inr (.inr 4), .inl (0, 728), .inl (-2147483648, 2147483647)], [], [(some (.inl (0, 728)), [.inr (.inr 4), .inl (0, 728), .inl (-2147483648, 2147483647)], [])], [])
def kx184_a : List fx_N := []
def kx184_s : List fx_D := []
def kx184_x : fx_X := ([], [(15, 4, 1), (29, 4, 4), (33, 4, 5), (36, 4, 6)], [], [], [], [(26, 43, 1, kx181_c), (26, 43, 1, kx118_c), (48, 43, 1, kx181_c), (48, 43, 1, kx118_c), (71, 43, 1, kx181_c), (71, 43, 1, kx118_c), (106, 53, 1002, ([], [], [], []))])
set_option maxRecDepth 100000 in
theorem kx184_k : fx_chk TX 6 kx184_c 0 kx184_x t_X4_cellBehind kx184_a kx184_s 65 = true := by decide +kernel
set_option maxRecDepth 100000 in
theorem kx184 {l : Launch} {E : (Nat → Prop) → State → Prop} {ad : List Nat} {D : va_G} {gs : List Nat} {cy : Nat → ClassId} (h : fxX E D cy) : fx_Met l yX4_cellBehind (.code yX4_cellBehind cX4_cellBehind 6 (some .int) :: wsL_law) ({ frames := 1, cells := 0, slots := 0, locals := 21 }) E (gs, TX, cy, fun _ => True) ad D classes kx184_c :=
  fx_sound (x := kx184_x) (tb := t_X4_cellBehind) (an := kx184_a) (sp := kx184_s) (rk := 0) 65 h.1 (fun _ _ _ _ _ _ => trivial) (fun _ _ _ _ _ _ => trivial) (ht_tys cy) (by decide) rfl ⟨fx_an, (fx_ac fl_X4_15 (fx_ac fl_X4_29 (fx_ac fl_X4_33 (fx_ac fl_X4_36 (fx_an))))), fx_an, fx_an, fx_an, (fx_ac (ev_V (kx181 h) (by decide) rfl ⟨by decide, by decide⟩ iV_X1_at g_X4_43) (fx_ac (ev_V (kx118 h) (by decide) rfl ⟨by decide, by decide⟩ iV_X1_at g_X4_43) (fx_ac (ev_V (kx181 h) (by decide) rfl ⟨by decide, by decide⟩ iV_X1_at g_X4_43) (fx_ac (ev_V (kx118 h) (by decide) rfl ⟨by decide, by decide⟩ iV_X1_at g_X4_43) (fx_ac (ev_V (kx181 h) (by decide) rfl ⟨by decide, by decide⟩ iV_X1_at g_X4_43) (fx_ac (ev_V (kx118 h) (by decide) rfl ⟨by decide, by decide⟩ iV_X1_at g_X4_43) (fx_ac (ev_M (by decide) ⟨by decide, by decide, m_137, m_1107, m_396, m_397⟩) (fx_an))))))))⟩ d_X4_cellBehind kx184_k
