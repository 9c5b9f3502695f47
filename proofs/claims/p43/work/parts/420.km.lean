-- X12_last 0 i
def km141_c : fx_C := ([.inr (.inr 1), .inl (-2147483648, 2147483647)], [], [(some (.inl (-1, -1)), [.inr (.inr 1), .inl (-2147483648, 2147483647)], []), (some (.inl (-1, 8)), [.inr (.inr 1), .inl (0, 2)], [])], [(12, 40), (1000, 34), (1000, 42), (1000, 61)])
def km141_a : List fx_N := [(15, [(0, .inr (.inr 1)), (1, .inl (0, 2)), (2, .inl (-1, 8))], [((0, 41), .inr (.inr 43)), ((3, 12), .inl (0, 0))], [(0, 0)], [(0, 0), (1, 1)]), (15, [(0, .inr (.inr 1)), (1, .inl (0, 2)), (2, .inl (-1, 8))], [((0, 41), .inr (.inr 43)), ((3, 12), .inl (1, 1))], [(0, 1)], [(0, 0), (1, 1)]), (15, [(0, .inr (.inr 1)), (1, .inl (0, 2)), (2, .inl (-1, 8))], [((0, 41), .inr (.inr 43)), ((3, 12), .inl (2, 2))], [(0, 2)], [(0, 0), (1, 1)]), (15, [(0, .inr (.inr 1)), (1, .inl (0, 2)), (2, .inl (-1, 8))], [((0, 41), .inr (.inr 43)), ((3, 12), .inl (3, 3))], [(0, 3)], [(0, 0), (1, 1)]), (15, [(0, .inr (.inr 1)), (1, .inl (0, 2)), (2, .inl (-1, 8))], [((0, 41), .inr (.inr 43)), ((3, 12), .inl (4, 4))], [(0, 4)], [(0, 0), (1, 1)]), (15, [(0, .inr (.inr 1)), (1, .inl (0, 2)), (2, .inl (-1, 8))], [((0, 41), .inr (.inr 43)), ((3, 12), .inl (5, 5))], [(0, 5)], [(0, 0), (1, 1)]), (15, [(0, .inr (.inr 1)), (1, .inl (0, 2)), (2, .inl (-1, 8))], [((0, 41), .inr (.inr 43)), ((3, 12), .inl (6, 6))], [(0, 6)], [(0, 0), (1, 1)]), (15, [(0, .inr (.inr 1)), (1, .inl (0, 2)), (2, .inl (-1, 8))], [((0, 41), .inr (.inr 43)), ((3, 12), .inl (7, 7))], [(0, 7)], [(0, 0), (1, 1)]), (15, [(0, .inr (.inr 1)), (1, .inl (0, 2)), (2, .inl (-1, 8))], [((0, 41), .inr (.inr 43)), ((3, 12), .inl (8, 8))], [(0, 8)], [(0, 0), (1, 1)]), (15, [(0, .inr (.inr 1)), (1, .inl (0, 2)), (2, .inl (-1, 8))], [((0, 41), .inr (.inr 43)), ((3, 12), .inl (9, 9))], [(0, 9)], [(0, 0), (1, 1)]), (15, [(0, .inr (.inr 1)), (1, .inl (0, 2)), (2, .inl (-1, 8))], [((0, 41), .inr (.inr 43)), ((3, 12), .inl (10, 10))], [(0, 10)], [(0, 0), (1, 1)]), (15, [(0, .inr (.inr 1)), (1, .inl (0, 2)), (2, .inl (-1, 8))], [((0, 41), .inr (.inr 43)), ((3, 12), .inl (11, 11))], [(0, 11)], [(0, 0), (1, 1)]), (15, [(0, .inr (.inr 1)), (1, .inl (0, 2)), (2, .inl (-1, -1))], [((0, 41), .inr (.inr 43)), ((3, 12), .inl (12, 12))], [(0, 12)], [(0, 0), (1, 1)])]
def km141_s : List fx_D := [(15, [(0, .inr (.inr 1))], [((0, 41), .inr (.inr 43)), ((1, 12), .inl (0, 12))], 2)]
def km141_x : fx_X := ([], [(92, 12, 41)], [], [], [], [(1, 419, 1000, km32_c), (10, 495, 12, km99_c), (27, 425, 12, km104_c), (27, 425, 12, km107_c), (27, 425, 12, km110_c), (27, 425, 12, km113_c), (27, 425, 12, km116_c), (27, 425, 12, km119_c), (27, 425, 12, km122_c), (27, 425, 12, km125_c), (27, 425, 12, km128_c), (27, 425, 12, km131_c), (27, 425, 12, km134_c), (27, 425, 12, km137_c), (35, 501, 12, km101_c)])
set_option maxRecDepth 100000 in
theorem km141_k : fx_chk TM 3 km141_c 0 km141_x t_X12_last km141_a km141_s 13 = true := by decide +kernel
set_option maxRecDepth 100000 in
theorem km141 {l : Launch} {E : (Nat → Prop) → State → Prop} {ad : List Nat} {D : va_G} {cy : Nat → ClassId} (h : fx_env E D classes (tys cy) nestW) : fx_Met l yX12_last (.code yX12_last cX12_last 3 (some .int) :: wsL_law) ({ frames := 4, cells := 0, slots := 0, locals := 92 }) E (gsM, TM, cy, IM) ad D classes km141_c :=
  fx_sound (x := km141_x) (tb := t_X12_last) (an := km141_a) (sp := km141_s) (rk := 0) 13 h (im_frA (by decide +kernel)) (im_frF (by decide +kernel)) (ht_tys cy) (by decide) rfl ⟨fx_an, (fx_ac fl_X12_92 (fx_an)), fx_an, fx_an, fx_an, (fx_ac (ev_S (km32_i h) ⟨by decide, by decide⟩ iS_X12_isRule g_X12_419) (fx_ac (ev_V (km99_i h) (by decide) rfl ⟨by decide, by decide⟩ iV_X12_keepNow g_X12_495) (fx_ac (ev_V (km104 h) (by decide) rfl ⟨by decide, by decide⟩ iV_X12_goRound g_X12_425) (fx_ac (ev_V (km107 h) (by decide) rfl ⟨by decide, by decide⟩ iV_X12_goRound g_X12_425) (fx_ac (ev_V (km110 h) (by decide) rfl ⟨by decide, by decide⟩ iV_X12_goRound g_X12_425) (fx_ac (ev_V (km113 h) (by decide) rfl ⟨by decide, by decide⟩ iV_X12_goRound g_X12_425) (fx_ac (ev_V (km116 h) (by decide) rfl ⟨by decide, by decide⟩ iV_X12_goRound g_X12_425) (fx_ac (ev_V (km119 h) (by decide) rfl ⟨by decide, by decide⟩ iV_X12_goRound g_X12_425) (fx_ac (ev_V (km122 h) (by decide) rfl ⟨by decide, by decide⟩ iV_X12_goRound g_X12_425) (fx_ac (ev_V (km125 h) (by decide) rfl ⟨by decide, by decide⟩ iV_X12_goRound g_X12_425) (fx_ac (ev_V (km128 h) (by decide) rfl ⟨by decide, by decide⟩ iV_X12_goRound g_X12_425) (fx_ac (ev_V (km131 h) (by decide) rfl ⟨by decide, by decide⟩ iV_X12_goRound g_X12_425) (fx_ac (ev_V (km134 h) (by decide) rfl ⟨by decide, by decide⟩ iV_X12_goRound g_X12_425) (fx_ac (ev_V (km137 h) (by decide) rfl ⟨by decide, by decide⟩ iV_X12_goRound g_X12_425) (fx_ac (ev_V (km101_i h) (by decide) rfl ⟨by decide, by decide⟩ iV_X12_bringBack g_X12_501) (fx_an))))))))))))))))⟩ d_X12_last km141_k
-- X12_markOf 0 43 i
def km142_c : fx_C := ([.inr (.inr 1), .inr (.inr 44), .inl (0, 12)], [], [(some (.inl (-2147483648, 2147483647)), [.inr (.inr 1), .inr (.inr 44), .inl (0, 12)], [])], [])
def km142_a : List fx_N := [(5, [(0, .inr (.inr 1)), (1, .inr (.inr 44)), (2, .inl (0, 12)), (3, .inl (-2147483648, 2147483647)), (4, .inl (0, 12))], [], [(0, 0), (1, 4), (0, 0)], [(0, 0), (1, 1), (2, 2)])]
def km142_s : List fx_D := []
def km142_x : fx_X := ([], [(39, 12, 17), (274, 12, 34)], [], [], [], [])
set_option maxRecDepth 100000 in
theorem km142_k : fx_chk TM 5 km142_c 0 km142_x t_X12_markOf km142_a km142_s 26 = true := by decide +kernel
set_option maxRecDepth 100000 in
theorem km142 {l : Launch} {E : (Nat → Prop) → State → Prop} {ad : List Nat} {D : va_G} {cy : Nat → ClassId} (h : fx_env E D classes (tys cy) nestW) : fx_Met l yX12_markOf (.code yX12_markOf cX12_markOf 5 (some .int) :: wsL_law) ({ frames := 0, cells := 0, slots := 0, locals := 0 }) E (gsM, TM, cy, fun _ => True) ad D classes km142_c :=
  fx_sound (x := km142_x) (tb := t_X12_markOf) (an := km142_a) (sp := km142_s) (rk := 0) 26 h (fun _ _ _ _ _ _ => trivial) (fun _ _ _ _ _ _ => trivial) (ht_tys cy) (by decide) rfl ⟨fx_an, (fx_ac fl_X12_39 (fx_ac fl_X12_274 (fx_an))), fx_an, fx_an, fx_an, fx_an⟩ d_X12_markOf km142_k
-- X12_mark 0 i
def km143_c : fx_C := ([.inr (.inr 1), .inl (-2147483648, 2147483647)], [], [(some (.inl (-2147483648, 2147483647)), [.inr (.inr 1), .inl (-1, 4)], []), (some (.inl (-1, -1)), [.inr (.inr 1), .inl (-2147483648, 2147483647)], [])], [(12, 45), (1000, 43)])
def km143_a : List fx_N := []
def km143_s : List fx_D := []
def km143_x : fx_X := ([], [(95, 12, 42), (384, 12, 45)], [], [], [], [(2, 396, 12, km12_c), (12, 403, 12, km21_c), (12, 403, 12, km23_c), (24, 504, 12, km142_c)])
set_option maxRecDepth 100000 in
theorem km143_k : fx_chk TM 2 km143_c 0 km143_x t_X12_mark km143_a km143_s 16 = true := by decide +kernel
set_option maxRecDepth 100000 in
theorem km143 {l : Launch} {E : (Nat → Prop) → State → Prop} {ad : List Nat} {D : va_G} {cy : Nat → ClassId} (h : fx_env E D classes (tys cy) nestW) : fx_Met l yX12_mark (.code yX12_mark cX12_mark 2 (some .int) :: wsL_law) ({ frames := 3, cells := 0, slots := 0, locals := 64 }) E (gsM, TM, cy, fun _ => True) ad D classes km143_c :=
  fx_sound (x := km143_x) (tb := t_X12_mark) (an := km143_a) (sp := km143_s) (rk := 0) 16 h (fun _ _ _ _ _ _ => trivial) (fun _ _ _ _ _ _ => trivial) (ht_tys cy) (by decide) rfl ⟨fx_an, (fx_ac fl_X12_95 (fx_ac fl_X12_384 (fx_an))), fx_an, fx_an, fx_an, (fx_ac (ev_V (km12 h) (by decide) rfl ⟨by decide, by decide⟩ iV_X12_isSlipOrRow g_X12_396) (fx_ac (ev_V (km21 h) (by decide) rfl ⟨by decide, by decide⟩ iV_X12_layOne g_X12_403) (fx_ac (ev_V (km23 h) (by decide) rfl ⟨by decide, by decide⟩ iV_X12_layOne g_X12_403) (fx_ac (ev_V (km142 h) (by decide) rfl ⟨by decide, by decide⟩ iV_X12_markOf g_X12_504) (fx_an)))))⟩ d_X12_mark km143_k
-- X12_isIn i i i (-2147483648, 2147483647) (0, 0) (99, 99)
def km144_c : fx_C := ([.inl (-2147483648, 2147483647), .inl (0, 0), .inl (99, 99)], [], [(some (.inl (1, 1)), [.inl (0, 99), .inl (0, 0), .inl (99, 99)], []), (some (.inl (0, 0)), [.inl (-2147483648, 2147483647), .inl (0, 0), .inl (99, 99)], [])], [])
def km144_a : List fx_N := []
def km144_s : List fx_D := []
def km144_x : fx_X := ([], [], [], [], [], [])
set_option maxRecDepth 100000 in
theorem km144_k : fx_chk TM 3 km144_c 3 km144_x t_X12_isIn km144_a km144_s 11 = true := by decide +kernel
set_option maxRecDepth 100000 in
theorem km144 {l : Launch} {E : (Nat → Prop) → State → Prop} {ad : List Nat} {D : va_G} {cy : Nat → ClassId} (h : fx_env E D classes (tys cy) nestW) : fx_Met l yX12_isIn (.code yX12_isIn cX12_isIn 3 (some .boolean) :: wsL_law) ({ frames := 0, cells := 0, slots := 0, locals := 0 }) E (gsM, TM, cy, fun _ => True) ad D classes km144_c :=
  fx_sound (x := km144_x) (tb := t_X12_isIn) (an := km144_a) (sp := km144_s) (rk := 3) 11 h (fun _ _ _ _ _ _ => trivial) (fun _ _ _ _ _ _ => trivial) (ht_tys cy) (by decide) rfl ⟨fx_an, fx_an, fx_an, fx_an, fx_an, fx_an⟩ d_X12_isIn km144_k
-- X12_layPutIn 0 i i ('c', 0)
def km145_c : fx_C := ([.inr (.inr 1), .inl (0, 0), .inl (0, 8)], [((0, 45), .inl (0, 11))], [(none, [.inr (.inr 1), .inl (0, 0), .inl (0, 8)], [((0, 46), .inl (1, 12))])], [(12, 46), (1000, 44)])
def km145_a : List fx_N := [(12, [(0, .inr (.inr 1)), (1, .inl (0, 0)), (2, .inl (0, 8)), (3, .inl (0, 12))], [((0, 45), .inl (0, 11)), ((0, 46), .inl (1, 12))], [(0, 0), (1, 3), (0, 0)], [(0, 0), (1, 1), (2, 2)])]
def km145_s : List fx_D := []
def km145_x : fx_X := ([], [(95, 12, 42), (98, 12, 43), (384, 12, 45), (390, 12, 46)], [(390, 12, 46, 0)], [], [], [])
set_option maxRecDepth 100000 in
theorem km145_k : fx_chk TM 4 km145_c 9 km145_x t_X12_layPutIn km145_a km145_s 25 = true := by decide +kernel
set_option maxRecDepth 100000 in
theorem km145 {l : Launch} {E : (Nat → Prop) → State → Prop} {ad : List Nat} {D : va_G} {cy : Nat → ClassId} (h : fx_env E D classes (tys cy) nestW) : fx_Met l yX12_layPutIn (.code yX12_layPutIn cX12_layPutIn 4 none :: wsL_law) ({ frames := 0, cells := 0, slots := 0, locals := 0 }) E (gsM, TM, cy, fun _ => True) ad D classes km145_c :=
  fx_sound (x := km145_x) (tb := t_X12_layPutIn) (an := km145_a) (sp := km145_s) (rk := 9) 25 h (fun _ _ _ _ _ _ => trivial) (fun _ _ _ _ _ _ => trivial) (ht_tys cy) (by decide) rfl ⟨fx_an, (fx_ac fl_X12_95 (fx_ac fl_X12_98 (fx_ac fl_X12_384 (fx_ac fl_X12_390 (fx_an))))), (fx_ac pl_X12_390 (fx_an)), fx_an, fx_an, fx_an⟩ d_X12_layPutIn km145_k
-- X12_markOf 0 44 i
def km146_c : fx_C := ([.inr (.inr 1), .inr (.inr 45), .inl (1, 12)], [], [(some (.inl (-2147483648, 2147483647)), [.inr (.inr 1), .inr (.inr 45), .inl (1, 12)], [])], [])
def km146_a : List fx_N := [(5, [(0, .inr (.inr 1)), (1, .inr (.inr 45)), (2, .inl (1, 12)), (3, .inl (-2147483648, 2147483647)), (4, .inl (0, 12))], [], [(0, 0), (1, 4), (0, 0)], [(0, 0), (1, 1), (2, 2)])]
def km146_s : List fx_D := []
def km146_x : fx_X := ([], [(39, 12, 17), (274, 12, 34)], [], [], [], [])
set_option maxRecDepth 100000 in
theorem km146_k : fx_chk TM 5 km146_c 0 km146_x t_X12_markOf km146_a km146_s 26 = true := by decide +kernel
set_option maxRecDepth 100000 in
theorem km146 {l : Launch} {E : (Nat → Prop) → State → Prop} {ad : List Nat} {D : va_G} {cy : Nat → ClassId} (h : fx_env E D classes (tys cy) nestW) : fx_Met l yX12_markOf (.code yX12_markOf cX12_markOf 5 (some .int) :: wsL_law) ({ frames := 0, cells := 0, slots := 0, locals := 0 }) E (gsM, TM, cy, fun _ => True) ad D classes km146_c :=
  fx_sound (x := km146_x) (tb := t_X12_markOf) (an := km146_a) (sp := km146_s) (rk := 0) 26 h (fun _ _ _ _ _ _ => trivial) (fun _ _ _ _ _ _ => trivial) (ht_tys cy) (by decide) rfl ⟨fx_an, (fx_ac fl_X12_39 (fx_ac fl_X12_274 (fx_an))), fx_an, fx_an, fx_an, fx_an⟩ d_X12_markOf km146_k
-- X12_isAheadOfLaid 0 i
def km147_c : fx_C := ([.inr (.inr 1), .inl (1, 12)], [], [(some (.inl (1, 1)), [.inr (.inr 1), .inl (1, 12)], []), (some (.inl (0, 0)), [.inr (.inr 1), .inl (1, 12)], [])], [])
def km147_a : List fx_N := [(2, [(0, .inr (.inr 1)), (1, .inl (1, 12)), (2, .inl (0, 12))], [], [(0, 0), (1, 2), (0, 0)], [(0, 0), (1, 1)])]
def km147_s : List fx_D := []
def km147_x : fx_X := ([], [(98, 12, 43), (116, 12, 54)], [], [], [], [])
set_option maxRecDepth 100000 in
theorem km147_k : fx_chk TM 3 km147_c 3 km147_x t_X12_isAheadOfLaid km147_a km147_s 26 = true := by decide +kernel
set_option maxRecDepth 100000 in
theorem km147 {l : Launch} {E : (Nat → Prop) → State → Prop} {ad : List Nat} {D : va_G} {cy : Nat → ClassId} (h : fx_env E D classes (tys cy) nestW) : fx_Met l yX12_isAheadOfLaid (.code yX12_isAheadOfLaid cX12_isAheadOfLaid 3 (some .boolean) :: wsL_law) ({ frames := 0, cells := 0, slots := 0, locals := 0 }) E (gsM, TM, cy, fun _ => True) ad D classes km147_c :=
  fx_sound (x := km147_x) (tb := t_X12_isAheadOfLaid) (an := km147_a) (sp := km147_s) (rk := 3) 26 h (fun _ _ _ _ _ _ => trivial) (fun _ _ _ _ _ _ => trivial) (ht_tys cy) (by decide) rfl ⟨fx_an, (fx_ac fl_X12_98 (fx_ac fl_X12_116 (fx_an))), fx_an, fx_an, fx_an, fx_an⟩ d_X12_isAheadOfLaid km147_k
-- X12_layPutIn 0 i i ('c', 1)
def km148_c : fx_C := ([.inr (.inr 1), .inl (1, 1), .inl (0, 8)], [((0, 45), .inl (1, 11))], [(none, [.inr (.inr 1), .inl (1, 1), .inl (0, 8)], [((0, 46), .inl (2, 12))])], [(12, 46), (1000, 44)])
def km148_a : List fx_N := [(12, [(0, .inr (.inr 1)), (1, .inl (1, 1)), (2, .inl (0, 8)), (3, .inl (0, 12))], [((0, 45), .inl (1, 11)), ((0, 46), .inl (2, 12))], [(0, 0), (1, 3), (0, 0)], [(0, 0), (1, 1), (2, 2)])]
def km148_s : List fx_D := []
def km148_x : fx_X := ([], [(95, 12, 42), (98, 12, 43), (384, 12, 45), (390, 12, 46)], [(390, 12, 46, 0)], [], [], [])
set_option maxRecDepth 100000 in
theorem km148_k : fx_chk TM 4 km148_c 9 km148_x t_X12_layPutIn km148_a km148_s 25 = true := by decide +kernel
set_option maxRecDepth 100000 in
theorem km148 {l : Launch} {E : (Nat → Prop) → State → Prop} {ad : List Nat} {D : va_G} {cy : Nat → ClassId} (h : fx_env E D classes (tys cy) nestW) : fx_Met l yX12_layPutIn (.code yX12_layPutIn cX12_layPutIn 4 none :: wsL_law) ({ frames := 0, cells := 0, slots := 0, locals := 0 }) E (gsM, TM, cy, fun _ => True) ad D classes km148_c :=
  fx_sound (x := km148_x) (tb := t_X12_layPutIn) (an := km148_a) (sp := km148_s) (rk := 9) 25 h (fun _ _ _ _ _ _ => trivial) (fun _ _ _ _ _ _ => trivial) (ht_tys cy) (by decide) rfl ⟨fx_an, (fx_ac fl_X12_95 (fx_ac fl_X12_98 (fx_ac fl_X12_384 (fx_ac fl_X12_390 (fx_an))))), (fx_ac pl_X12_390 (fx_an)), fx_an, fx_an, fx_an⟩ d_X12_layPutIn km148_k
-- X12_layPutIn 0 i i ('c', 2)
def km149_c : fx_C := ([.inr (.inr 1), .inl (2, 2), .inl (0, 8)], [((0, 45), .inl (2, 11))], [(none, [.inr (.inr 1), .inl (2, 2), .inl (0, 8)], [((0, 46), .inl (3, 12))])], [(12, 46), (1000, 44)])
def km149_a : List fx_N := [(12, [(0, .inr (.inr 1)), (1, .inl (2, 2)), (2, .inl (0, 8)), (3, .inl (0, 12))], [((0, 45), .inl (2, 11)), ((0, 46), .inl (3, 12))], [(0, 0), (1, 3), (0, 0)], [(0, 0), (1, 1), (2, 2)])]
def km149_s : List fx_D := []
def km149_x : fx_X := ([], [(95, 12, 42), (98, 12, 43), (384, 12, 45), (390, 12, 46)], [(390, 12, 46, 0)], [], [], [])
set_option maxRecDepth 100000 in
theorem km149_k : fx_chk TM 4 km149_c 9 km149_x t_X12_layPutIn km149_a km149_s 25 = true := by decide +kernel
set_option maxRecDepth 100000 in
theorem km149 {l : Launch} {E : (Nat → Prop) → State → Prop} {ad : List Nat} {D : va_G} {cy : Nat → ClassId} (h : fx_env E D classes (tys cy) nestW) : fx_Met l yX12_layPutIn (.code yX12_layPutIn cX12_layPutIn 4 none :: wsL_law) ({ frames := 0, cells := 0, slots := 0, locals := 0 }) E (gsM, TM, cy, fun _ => True) ad D classes km149_c :=
  fx_sound (x := km149_x) (tb := t_X12_layPutIn) (an := km149_a) (sp := km149_s) (rk := 9) 25 h (fun _ _ _ _ _ _ => trivial) (fun _ _ _ _ _ _ => trivial) (ht_tys cy) (by decide) rfl ⟨fx_an, (fx_ac fl_X12_95 (fx_ac fl_X12_98 (fx_ac fl_X12_384 (fx_ac fl_X12_390 (fx_an))))), (fx_ac pl_X12_390 (fx_an)), fx_an, fx_an, fx_an⟩ d_X12_layPutIn km149_k
-- X12_layPutIn 0 i i ('c', 3)
def km150_c : fx_C := ([.inr (.inr 1), .inl (3, 3), .inl (0, 8)], [((0, 45), .inl (3, 11))], [(none, [.inr (.inr 1), .inl (3, 3), .inl (0, 8)], [((0, 46), .inl (4, 12))])], [(12, 46), (1000, 44)])
def km150_a : List fx_N := [(12, [(0, .inr (.inr 1)), (1, .inl (3, 3)), (2, .inl (0, 8)), (3, .inl (0, 12))], [((0, 45), .inl (3, 11)), ((0, 46), .inl (4, 12))], [(0, 0), (1, 3), (0, 0)], [(0, 0), (1, 1), (2, 2)])]
def km150_s : List fx_D := []
def km150_x : fx_X := ([], [(95, 12, 42), (98, 12, 43), (384, 12, 45), (390, 12, 46)], [(390, 12, 46, 0)], [], [], [])
set_option maxRecDepth 100000 in
theorem km150_k : fx_chk TM 4 km150_c 9 km150_x t_X12_layPutIn km150_a km150_s 25 = true := by decide +kernel
set_option maxRecDepth 100000 in
theorem km150 {l : Launch} {E : (Nat → Prop) → State → Prop} {ad : List Nat} {D : va_G} {cy : Nat → ClassId} (h : fx_env E D classes (tys cy) nestW) : fx_Met l yX12_layPutIn (.code yX12_layPutIn cX12_layPutIn 4 none :: wsL_law) ({ frames := 0, cells := 0, slots := 0, locals := 0 }) E (gsM, TM, cy, fun _ => True) ad D classes km150_c :=
  fx_sound (x := km150_x) (tb := t_X12_layPutIn) (an := km150_a) (sp := km150_s) (rk := 9) 25 h (fun _ _ _ _ _ _ => trivial) (fun _ _ _ _ _ _ => trivial) (ht_tys cy) (by decide) rfl ⟨fx_an, (fx_ac fl_X12_95 (fx_ac fl_X12_98 (fx_ac fl_X12_384 (fx_ac fl_X12_390 (fx_an))))), (fx_ac pl_X12_390 (fx_an)), fx_an, fx_an, fx_an⟩ d_X12_layPutIn km150_k
-- X12_layPutIn 0 i i ('c', 4)
def km151_c : fx_C := ([.inr (.inr 1), .inl (4, 4), .inl (0, 8)], [((0, 45), .inl (4, 11))], [(none, [.inr (.inr 1), .inl (4, 4), .inl (0, 8)], [((0, 46), .inl (5, 12))])], [(12, 46), (1000, 44)])
def km151_a : List fx_N := [(12, [(0, .inr (.inr 1)), (1, .inl (4, 4)), (2, .inl (0, 8)), (3, .inl (0, 12))], [((0, 45), .inl (4, 11)), ((0, 46), .inl (5, 12))], [(0, 0), (1, 3), (0, 0)], [(0, 0), (1, 1), (2, 2)])]
def km151_s : List fx_D := []
def km151_x : fx_X := ([], [(95, 12, 42), (98, 12, 43), (384, 12, 45), (390, 12, 46)], [(390, 12, 46, 0)], [], [], [])
set_option maxRecDepth 100000 in
theorem km151_k : fx_chk TM 4 km151_c 9 km151_x t_X12_layPutIn km151_a km151_s 25 = true := by decide +kernel
set_option maxRecDepth 100000 in
theorem km151 {l : Launch} {E : (Nat → Prop) → State → Prop} {ad : List Nat} {D : va_G} {cy : Nat → ClassId} (h : fx_env E D classes (tys cy) nestW) : fx_Met l yX12_layPutIn (.code yX12_layPutIn cX12_layPutIn 4 none :: wsL_law) ({ frames := 0, cells := 0, slots := 0, locals := 0 }) E (gsM, TM, cy, fun _ => True) ad D classes km151_c :=
  fx_sound (x := km151_x) (tb := t_X12_layPutIn) (an := km151_a) (sp := km151_s) (rk := 9) 25 h (fun _ _ _ _ _ _ => trivial) (fun _ _ _ _ _ _ => trivial) (ht_tys cy) (by decide) rfl ⟨fx_an, (fx_ac fl_X12_95 (fx_ac fl_X12_98 (fx_ac fl_X12_384 (fx_ac fl_X12_390 (fx_an))))), (fx_ac pl_X12_390 (fx_an)), fx_an, fx_an, fx_an⟩ d_X12_layPutIn km151_k
-- X12_layPutIn 0 i i ('c', 5)
def km152_c : fx_C := ([.inr (.inr 1), .inl (5, 5), .inl (0, 8)], [((0, 45), .inl (5, 11))], [(none, [.inr (.inr 1), .inl (5, 5), .inl (0, 8)], [((0, 46), .inl (6, 12))])], [(12, 46), (1000, 44)])
def km152_a : List fx_N := [(12, [(0, .inr (.inr 1)), (1, .inl (5, 5)), (2, .inl (0, 8)), (3, .inl (0, 12))], [((0, 45), .inl (5, 11)), ((0, 46), .inl (6, 12))], [(0, 0), (1, 3), (0, 0)], [(0, 0), (1, 1), (2, 2)])]
def km152_s : List fx_D := []
def km152_x : fx_X := ([], [(95, 12, 42), (98, 12, 43), (384, 12, 45), (390, 12, 46)], [(390, 12, 46, 0)], [], [], [])
set_option maxRecDepth 100000 in
theorem km152_k : fx_chk TM 4 km152_c 9 km152_x t_X12_layPutIn km152_a km152_s 25 = true := by decide +kernel
set_option maxRecDepth 100000 in
theorem km152 {l : Launch} {E : (Nat → Prop) → State → Prop} {ad : List Nat} {D : va_G} {cy : Nat → ClassId} (h : fx_env E D classes (tys cy) nestW) : fx_Met l yX12_layPutIn (.code yX12_layPutIn cX12_layPutIn 4 none :: wsL_law) ({ frames := 0, cells := 0, slots := 0, locals := 0 }) E (gsM, TM, cy, fun _ => True) ad D classes km152_c :=
  fx_sound (x := km152_x) (tb := t_X12_layPutIn) (an := km152_a) (sp := km152_s) (rk := 9) 25 h (fun _ _ _ _ _ _ => trivial) (fun _ _ _ _ _ _ => trivial) (ht_tys cy) (by decide) rfl ⟨fx_an, (fx_ac fl_X12_95 (fx_ac fl_X12_98 (fx_ac fl_X12_384 (fx_ac fl_X12_390 (fx_an))))), (fx_ac pl_X12_390 (fx_an)), fx_an, fx_an, fx_an⟩ d_X12_layPutIn km152_k
-- X12_layPutIn 0 i i ('c', 6)
def km153_c : fx_C := ([.inr (.inr 1), .inl (6, 6), .inl (0, 8)], [((0, 45), .inl (6, 11))], [(none, [.inr (.inr 1), .inl (6, 6), .inl (0, 8)], [((0, 46), .inl (7, 12))])], [(12, 46), (1000, 44)])
def km153_a : List fx_N := [(12, [(0, .inr (.inr 1)), (1, .inl (6, 6)), (2, .inl (0, 8)), (3, .inl (0, 12))], [((0, 45), .inl (6, 11)), ((0, 46), .inl (7, 12))], [(0, 0), (1, 3), (0, 0)], [(0, 0), (1, 1), (2, 2)])]
def km153_s : List fx_D := []
def km153_x : fx_X := ([], [(95, 12, 42), (98, 12, 43), (384, 12, 45), (390, 12, 46)], [(390, 12, 46, 0)], [], [], [])
set_option maxRecDepth 100000 in
theorem km153_k : fx_chk TM 4 km153_c 9 km153_x t_X12_layPutIn km153_a km153_s 25 = true := by decide +kernel
set_option maxRecDepth 100000 in
theorem km153 {l : Launch} {E : (Nat → Prop) → State → Prop} {ad : List Nat} {D : va_G} {cy : Nat → ClassId} (h : fx_env E D classes (tys cy) nestW) : fx_Met l yX12_layPutIn (.code yX12_layPutIn cX12_layPutIn 4 none :: wsL_law) ({ frames := 0, cells := 0, slots := 0, locals := 0 }) E (gsM, TM, cy, fun _ => True) ad D classes km153_c :=
  fx_sound (x := km153_x) (tb := t_X12_layPutIn) (an := km153_a) (sp := km153_s) (rk := 9) 25 h (fun _ _ _ _ _ _ => trivial) (fun _ _ _ _ _ _ => trivial) (ht_tys cy) (by decide) rfl ⟨fx_an, (fx_ac fl_X12_95 (fx_ac fl_X12_98 (fx_ac fl_X12_384 (fx_ac fl_X12_390 (fx_an))))), (fx_ac pl_X12_390 (fx_an)), fx_an, fx_an, fx_an⟩ d_X12_layPutIn km153_k
-- X12_layPutIn 0 i i ('c', 7)
def km154_c : fx_C := ([.inr (.inr 1), .inl (7, 7), .inl (0, 8)], [((0, 45), .inl (7, 11))], [(none, [.inr (.inr 1), .inl (7, 7), .inl (0, 8)], [((0, 46), .inl (8, 12))])], [(12, 46), (1000, 44)])
def km154_a : List fx_N := [(12, [(0, .inr (.inr 1)), (1, .inl (7, 7)), (2, .inl (0, 8)), (3, .inl (0, 12))], [((0, 45), .inl (7, 11)), ((0, 46), .inl (8, 12))], [(0, 0), (1, 3), (0, 0)], [(0, 0), (1, 1), (2, 2)])]
def km154_s : List fx_D := []
def km154_x : fx_X := ([], [(95, 12, 42), (98, 12, 43), (384, 12, 45), (390, 12, 46)], [(390, 12, 46, 0)], [], [], [])
set_option maxRecDepth 100000 in
theorem km154_k : fx_chk TM 4 km154_c 9 km154_x t_X12_layPutIn km154_a km154_s 25 = true := by decide +kernel
set_option maxRecDepth 100000 in
theorem km154 {l : Launch} {E : (Nat → Prop) → State → Prop} {ad : List Nat} {D : va_G} {cy : Nat → ClassId} (h : fx_env E D classes (tys cy) nestW) : fx_Met l yX12_layPutIn (.code yX12_layPutIn cX12_layPutIn 4 none :: wsL_law) ({ frames := 0, cells := 0, slots := 0, locals := 0 }) E (gsM, TM, cy, fun _ => True) ad D classes km154_c :=
  fx_sound (x := km154_x) (tb := t_X12_layPutIn) (an := km154_a) (sp := km154_s) (rk := 9) 25 h (fun _ _ _ _ _ _ => trivial) (fun _ _ _ _ _ _ => trivial) (ht_tys cy) (by decide) rfl ⟨fx_an, (fx_ac fl_X12_95 (fx_ac fl_X12_98 (fx_ac fl_X12_384 (fx_ac fl_X12_390 (fx_an))))), (fx_ac pl_X12_390 (fx_an)), fx_an, fx_an, fx_an⟩ d_X12_layPutIn km154_k
-- X12_layPutIn 0 i i ('c', 8)
def km155_c : fx_C := ([.inr (.inr 1), .inl (8, 8), .inl (0, 8)], [((0, 45), .inl (8, 11))], [(none, [.inr (.inr 1), .inl (8, 8), .inl (0, 8)], [((0, 46), .inl (9, 12))])], [(12, 46), (1000, 44)])
def km155_a : List fx_N := [(12, [(0, .inr (.inr 1)), (1, .inl (8, 8)), (2, .inl (0, 8)), (3, .inl (0, 12))], [((0, 45), .inl (8, 11)), ((0, 46), .inl (9, 12))], [(0, 0), (1, 3), (0, 0)], [(0, 0), (1, 1), (2, 2)])]
def km155_s : List fx_D := []
def km155_x : fx_X := ([], [(95, 12, 42), (98, 12, 43), (384, 12, 45), (390, 12, 46)], [(390, 12, 46, 0)], [], [], [])
set_option maxRecDepth 100000 in
theorem km155_k : fx_chk TM 4 km155_c 9 km155_x t_X12_layPutIn km155_a km155_s 25 = true := by decide +kernel
set_option maxRecDepth 100000 in
theorem km155 {l : Launch} {E : (Nat → Prop) → State → Prop} {ad : List Nat} {D : va_G} {cy : Nat → ClassId} (h : fx_env E D classes (tys cy) nestW) : fx_Met l yX12_layPutIn (.code yX12_layPutIn cX12_layPutIn 4 none :: wsL_law) ({ frames := 0, cells := 0, slots := 0, locals := 0 }) E (gsM, TM, cy, fun _ => True) ad D classes km155_c :=
  fx_sound (x := km155_x) (tb := t_X12_layPutIn) (an := km155_a) (sp := km155_s) (rk := 9) 25 h (fun _ _ _ _ _ _ => trivial) (fun _ _ _ _ _ _ => trivial) (ht_tys cy) (by decide) rfl ⟨fx_an, (fx_ac fl_X12_95 (fx_ac fl_X12_98 (fx_ac fl_X12_384 (fx_ac fl_X12_390 (fx_an))))), (fx_ac pl_X12_390 (fx_an)), fx_an, fx_an, fx_an⟩ d_X12_layPutIn km155_k
-- X12_layPutIn 0 i i ('c', 9)
def km156_c : fx_C := ([.inr (.inr 1), .inl (9, 9), .inl (0, 8)], [((0, 45), .inl (9, 11))], [(none, [.inr (.inr 1), .inl (9, 9), .inl (0, 8)], [((0, 46), .inl (10, 12))])], [(12, 46), (1000, 44)])
def km156_a : List fx_N := [(12, [(0, .inr (.inr 1)), (1, .inl (9, 9)), (2, .inl (0, 8)), (3, .inl (0, 12))], [((0, 45), .inl (9, 11)), ((0, 46), .inl (10, 12))], [(0, 0), (1, 3), (0, 0)], [(0, 0), (1, 1), (2, 2)])]
def km156_s : List fx_D := []
def km156_x : fx_X := ([], [(95, 12, 42), (98, 12, 43), (384, 12, 45), (390, 12, 46)], [(390, 12, 46, 0)], [], [], [])
set_option maxRecDepth 100000 in
theorem km156_k : fx_chk TM 4 km156_c 9 km156_x t_X12_layPutIn km156_a km156_s 25 = true := by decide +kernel
set_option maxRecDepth 100000 in
theorem km156 {l : Launch} {E : (Nat → Prop) → State → Prop} {ad : List Nat} {D : va_G} {cy : Nat → ClassId} (h : fx_env E D classes (tys cy) nestW) : fx_Met l yX12_layPutIn (.code yX12_layPutIn cX12_layPutIn 4 none :: wsL_law) ({ frames := 0, cells := 0, slots := 0, locals := 0 }) E (gsM, TM, cy, fun _ => True) ad D classes km156_c :=
  fx_sound (x := km156_x) (tb := t_X12_layPutIn) (an := km156_a) (sp := km156_s) (rk := 9) 25 h (fun _ _ _ _ _ _ => trivial) (fun _ _ _ _ _ _ => trivial) (ht_tys cy) (by decide) rfl ⟨fx_an, (fx_ac fl_X12_95 (fx_ac fl_X12_98 (fx_ac fl_X12_384 (fx_ac fl_X12_390 (fx_an))))), (fx_ac pl_X12_390 (fx_an)), fx_an, fx_an, fx_an⟩ d_X12_layPutIn km156_k
-- X12_layPutIn 0 i i ('c', 10)
def km157_c : fx_C := ([.inr (.inr 1), .inl (10, 10), .inl (0, 8)], [((0, 45), .inl (10, 11))], [(none, [.inr (.inr 1), .inl (10, 10), .inl (0, 8)], [((0, 46), .inl (11, 12))])], [(12, 46), (1000, 44)])
def km157_a : List fx_N := [(12, [(0, .inr (.inr 1)), (1, .inl (10, 10)), (2, .inl (0, 8)), (3, .inl (0, 12))], [((0, 45), .inl (10, 11)), ((0, 46), .inl (11, 12))], [(0, 0), (1, 3), (0, 0)], [(0, 0), (1, 1), (2, 2)])]
def km157_s : List fx_D := []
def km157_x : fx_X := ([], [(95, 12, 42), (98, 12, 43), (384, 12, 45), (390, 12, 46)], [(390, 12, 46, 0)], [], [], [])
set_option maxRecDepth 100000 in
theorem km157_k : fx_chk TM 4 km157_c 9 km157_x t_X12_layPutIn km157_a km157_s 25 = true := by decide +kernel
set_option maxRecDepth 100000 in
theorem km157 {l : Launch} {E : (Nat → Prop) → State → Prop} {ad : List Nat} {D : va_G} {cy : Nat → ClassId} (h : fx_env E D classes (tys cy) nestW) : fx_Met l yX12_layPutIn (.code yX12_layPutIn cX12_layPutIn 4 none :: wsL_law) ({ frames := 0, cells := 0, slots := 0, locals := 0 }) E (gsM, TM, cy, fun _ => True) ad D classes km157_c :=
  fx_sound (x := km157_x) (tb := t_X12_layPutIn) (an := km157_a) (sp := km157_s) (rk := 9) 25 h (fun _ _ _ _ _ _ => trivial) (fun _ _ _ _ _ _ => trivial) (ht_tys cy) (by decide) rfl ⟨fx_an, (fx_ac fl_X12_95 (fx_ac fl_X12_98 (fx_ac fl_X12_384 (fx_ac fl_X12_390 (fx_an))))), (fx_ac pl_X12_390 (fx_an)), fx_an, fx_an, fx_an⟩ d_X12_layPutIn km157_k
-- X12_layPutIn 0 i i ('c', 11)
def km158_c : fx_C := ([.inr (.inr 1), .inl (11, 11), .inl (0, 8)], [((0, 45), .inl (11, 11))], [(none, [.inr (.inr 1), .inl (11, 11), .inl (0, 8)], [((0, 46), .inl (12, 12))])], [(12, 46), (1000, 44)])
def km158_a : List fx_N := [(12, [(0, .inr (.inr 1)), (1, .inl (11, 11)), (2, .inl (0, 8)), (3, .inl (0, 12))], [((0, 45), .inl (11, 11)), ((0, 46), .inl (12, 12))], [(0, 0), (1, 3), (0, 0)], [(0, 0), (1, 1), (2, 2)])]
def km158_s : List fx_D := []
def km158_x : fx_X := ([], [(95, 12, 42), (98, 12, 43), (384, 12, 45), (390, 12, 46)], [(390, 12, 46, 0)], [], [], [])
set_option maxRecDepth 100000 in
theorem km158_k : fx_chk TM 4 km158_c 9 km158_x t_X12_layPutIn km158_a km158_s 21 = true := by decide +kernel
set_option maxRecDepth 100000 in
theorem km158 {l : Launch} {E : (Nat → Prop) → State → Prop} {ad : List Nat} {D : va_G} {cy : Nat → ClassId} (h : fx_env E D classes (tys cy) nestW) : fx_Met l yX12_layPutIn (.code yX12_layPutIn cX12_layPutIn 4 none :: wsL_law) ({ frames := 0, cells := 0, slots := 0, locals := 0 }) E (gsM, TM, cy, fun _ => True) ad D classes km158_c :=
  fx_sound (x := km158_x) (tb := t_X12_layPutIn) (an := km158_a) (sp := km158_s) (rk := 9) 21 h (fun _ _ _ _ _ _ => trivial) (fun _ _ _ _ _ _ => trivial) (ht_tys cy) (by decide) rfl ⟨fx_an, (fx_ac fl_X12_95 (fx_ac fl_X12_98 (fx_ac fl_X12_384 (fx_ac fl_X12_390 (fx_an))))), (fx_ac pl_X12_390 (fx_an)), fx_an, fx_an, fx_an⟩ d_X12_layPutIn km158_k
