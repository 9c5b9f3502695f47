theorem fs_f2 {cy : Nat → ClassId} {ad : List Nat} {ws : va_W} {a f1 f2 : Nat} {av : List Value} {lo1 hi1 lo2 hi2 : Int} (hw : fx_wo (gsM, TM, cy, fun _ => True) ad ws) (ha : ad[0]? = some a) (h0 : av[0]? = some (.ref a)) (ht1 : ∃ lo0 hi0, tsM[f1]? = some (.inl (lo0, hi0))) (ht2 : ∃ lo0 hi0, tsM[f2]? = some (.inl (lo0, hi0))) (h1 : lo1 ≤ vi ws 0 f1 ∧ vi ws 0 f1 ≤ hi1) (h2 : lo2 ≤ vi ws 0 f2 ∧ vi ws 0 f2 ≤ hi2) : ∃ rt, fx_fs (gsM, TM, cy, fun _ => True) ad ws av [((0, f1), .inl (lo1, hi1)), ((0, f2), .inl (lo2, hi2))] rt := by
  obtain ⟨vs, g1, g2, g3, -⟩ := tm_obj hw ha TM0
  obtain ⟨p1, q1, ht1⟩ := ht1
  obtain ⟨p2, q2, ht2⟩ := ht2
  obtain ⟨v, v1, x, rfl, x1, x2⟩ := g3 f1 _ ht1
  obtain ⟨v', v1', y, rfl, y1, y2⟩ := g3 f2 _ ht2
  have e := vi_f g1 v1
  have e' := vi_f g1 v1'
  rw [e] at h1
  rw [e'] at h2
  exact ⟨_, a, 0, _, _, h0, g1, v1, ⟨x, rfl, h1.1, h1.2⟩, a, 0, _, _, fx_get_mono _ h0, g1, v1', ⟨y, rfl, h2.1, h2.2⟩, rfl⟩
/-- acts and undone told anew, the rest by the frame -/
theorem im_frB {cy : Nat → ClassId} {md : List (Nat × Nat)} (hmd : (md.all fun q => q.1 == 12 || !supM.contains q) = true) {w w' : va_W} (hAU : imAU w') (hs : fx_sm (gsM, TM, cy, IM) md w w') (hI : IM w) : IM w' := by
  obtain ⟨⟨hs0, hsg⟩, h1, h2, h3⟩ := hI
  have ar : ∀ g ∈ [3, 5, 13, 14, 15, 16, 21], (1000, g) ∈ supM := by decide +kernel
  have hn : ∀ g ∈ [3, 5, 13, 14, 15, 16, 21], (1000, g) ∉ md := fun g hg hm => by
    have := List.all_eq_true.mp hmd _ hm
    have hc := ar g hg
    simp [hc] at this
  have va : ∀ g ∈ [3, 5, 13, 14, 15, 16, 21], ∀ j, vi w' g j = vi w g j := fun g hg j => vi_arr (gs_ok g hg) hs (hn g hg) (hsg g hg)
  refine ⟨⟨?_, fun g hg => ?_⟩, hAU, ?_, ?_⟩
  · obtain ⟨a, vs, hx⟩ := hs0
    obtain ⟨vs', h, -⟩ := hs.1 _ a 12 vs hx
    exact ⟨a, vs', h⟩
  · obtain ⟨a, x, hx⟩ := hsg g hg
    exact ⟨a, x, hs.2 _ a g x hx (gs_ok g hg) (hn g hg)⟩
  · intro b s k hb hs1 hk1
    rw [va 5 (by decide)] at hs1
    rw [va 13 (by decide)] at hk1
    rw [va 14 (by decide), va 3 (by decide)]
    exact h2 b s k hb hs1 hk1
  · intro b hb
    have e : vi w' 21 = vi w 21 := funext fun j => va 21 (by decide) j
    rw [e, va 15 (by decide), va 16 (by decide)]
    exact h3 b hb
-- X12_reckoned 0
def km316_c : fx_C := ([.inr (.inr 1)], [], [(some (.inl (-2147483648, 2147483647)), [.inr (.inr 1)], [])], [(1000, 25)])
theorem km316 {l : Launch} {E : (Nat → Prop) → State → Prop} {ad : List Nat} {D : va_G} {cy : Nat → ClassId} (h : fx_env E D classes (tys cy) nestW) : fx_Met l yX12_reckoned (.code yX12_reckoned cX12_reckoned 4 (some .int) :: wsL_law) ({ frames := 2, cells := 0, slots := 0, locals := 46 }) E (gsM, TM, cy, IM) ad D classes km316_c := by
  refine fx_hM2 (fun av ws rt hty hfs hwo hI => ?_)
  have hty0 := hty
  obtain ⟨x0, l0, rfl, q0, t0⟩ := ty_uc hty
  obtain ⟨a0, rfl, ha0⟩ := ok_rr (by decide) q0
  obtain rfl := ty_un t0
  refine ⟨_, _, h_reckoned h a0 ha0, ⟨rfl, hI.2.2.2⟩, fun rv ws1 hwo1 hp => ?_⟩
  obtain ⟨sm, z, rfl⟩ := hp
  exact ⟨im_fr (cy := cy) (by decide +kernel) _ _ sm hI, sm, _, List.mem_cons_self, ⟨_, rfl, ok_top _⟩, hty0, ⟨_, rfl⟩⟩
-- X12_keepAct 0
def km317_c : fx_C := ([.inr (.inr 1)], [], [(none, [.inr (.inr 1)], [((0, 49), .inl (1, 40)), ((0, 50), .inl (0, 0))])], [(12, 49), (12, 50), (1000, 30)])
theorem km317 {l : Launch} {E : (Nat → Prop) → State → Prop} {ad : List Nat} {D : va_G} {cy : Nat → ClassId} (h : fx_env E D classes (tys cy) nestW) : fx_Met l yX12_keepAct (.code yX12_keepAct cX12_keepAct 2 none :: wsL_law) ({ frames := 0, cells := 0, slots := 0, locals := 0 }) E (gsM, TM, cy, fun _ => True) ad D classes km317_c := by
  refine fx_hM2 (fun av ws rt hty hfs hwo hI => ?_)
  have hty0 := hty
  obtain ⟨x0, l0, rfl, q0, t0⟩ := ty_uc hty
  obtain ⟨a0, rfl, ha0⟩ := ok_rr (by decide) q0
  obtain rfl := ty_un t0
  refine ⟨_, _, h_keepAct h a0 ha0, ⟨rfl, trivial⟩, fun rv ws1 hwo1 hp => ?_⟩
  obtain ⟨sm, rfl, k1, k2, k3⟩ := hp
  exact ⟨trivial, sm, _, List.mem_cons_self, rfl, hty0, (fs_f2 hwo1 ha0 rfl ⟨_, _, rfl⟩ ⟨_, _, rfl⟩ ⟨k1, k2⟩ ⟨by omega, by omega⟩)⟩
-- X12_odds 0 i i
def km318_c : fx_C := ([.inr (.inr 1), .inl (-2147483648, 2147483647), .inl (-2147483648, 2147483647)], [], [(some (.inl (-2147483648, 2147483647)), [.inr (.inr 1), .inl (-2147483648, 2147483647), .inl (-2147483648, 2147483647)], [])], [(12, 45), (12, 46), (1000, 27), (1000, 28), (1000, 31)])
theorem km318 {l : Launch} {E : (Nat → Prop) → State → Prop} {ad : List Nat} {D : va_G} {cy : Nat → ClassId} (h : fx_env E D classes (tys cy) nestW) : fx_Met l yX12_odds (.code yX12_odds cX12_odds 5 (some .int) :: wsL_law) ({ frames := 2, cells := 0, slots := 0, locals := 44 }) E (gsM, TM, cy, fun _ => True) ad D classes km318_c := by
  refine fx_hM2 (fun av ws rt hty hfs hwo hI => ?_)
  have hty0 := hty
  obtain ⟨x0, l0, rfl, q0, t0⟩ := ty_uc hty
  obtain ⟨a0, rfl, ha0⟩ := ok_rr (by decide) q0
  obtain ⟨x1, l1, rfl, q1, t1⟩ := ty_uc t0
  obtain ⟨z1, rfl, b1, c1, d1⟩ := ok_iz q1
  obtain ⟨x2, l2, rfl, q2, t2⟩ := ty_uc t1
  obtain ⟨z2, rfl, b2, c2, d2⟩ := ok_iz q2
  obtain rfl := ty_un t2
  refine ⟨_, _, h_odds h a0 z1 z2 ha0 d1 d2, ⟨rfl, trivial⟩, fun rv ws1 hwo1 hp => ?_⟩
  obtain ⟨sm, z, rfl⟩ := hp
  exact ⟨trivial, sm, _, List.mem_cons_self, ⟨_, rfl, ok_top _⟩, hty0, ⟨_, rfl⟩⟩
-- X12_source 0 i i
def km319_c : fx_C := ([.inr (.inr 1), .inl (-2147483648, 2147483647), .inl (-2147483648, 2147483647)], [], [(some (.inl (-2147483648, 2147483647)), [.inr (.inr 1), .inl (-2147483648, 2147483647), .inl (-2147483648, 2147483647)], [])], [(12, 45), (12, 46), (12, 47), (12, 55), (1000, 27), (1000, 28), (1000, 32), (1000, 33), (1000, 34)])
theorem km319 {l : Launch} {E : (Nat → Prop) → State → Prop} {ad : List Nat} {D : va_G} {cy : Nat → ClassId} (h : fx_env E D classes (tys cy) nestW) : fx_Met l yX12_source (.code yX12_source cX12_source 3 (some .int) :: wsL_law) ({ frames := 5, cells := 0, slots := 0, locals := 124 }) E (gsM, TM, cy, IM) ad D classes km319_c := by
  refine fx_hM2 (fun av ws rt hty hfs hwo hI => ?_)
  have hty0 := hty
  obtain ⟨x0, l0, rfl, q0, t0⟩ := ty_uc hty
  obtain ⟨a0, rfl, ha0⟩ := ok_rr (by decide) q0
  obtain ⟨x1, l1, rfl, q1, t1⟩ := ty_uc t0
  obtain ⟨z1, rfl, b1, c1, d1⟩ := ok_iz q1
  obtain ⟨x2, l2, rfl, q2, t2⟩ := ty_uc t1
  obtain ⟨z2, rfl, b2, c2, d2⟩ := ok_iz q2
  obtain rfl := ty_un t2
  refine ⟨_, _, h_source h a0 z1 z2 ha0 d1 d2, ⟨rfl, hI.2.2.1⟩, fun rv ws1 hwo1 hp => ?_⟩
  obtain ⟨sm, z, rfl⟩ := hp
  exact ⟨im_fr (cy := cy) (by decide +kernel) _ _ sm hI, sm, _, List.mem_cons_self, ⟨_, rfl, ok_top _⟩, hty0, ⟨_, rfl⟩⟩
-- X12_three 0 i i i
def km320_c : fx_C := ([.inr (.inr 1), .inl (-2147483648, 2147483647), .inl (-2147483648, 2147483647), .inl (-2147483648, 2147483647)], [], [(some (.inl (-2147483648, 2147483647)), [.inr (.inr 1), .inl (-2147483648, 2147483647), .inl (-2147483648, 2147483647), .inl (-2147483648, 2147483647)], [])], [(12, 45), (12, 46), (12, 47), (12, 55), (1000, 27), (1000, 28), (1000, 29), (1000, 32), (1000, 33), (1000, 34)])
theorem km320 {l : Launch} {E : (Nat → Prop) → State → Prop} {ad : List Nat} {D : va_G} {cy : Nat → ClassId} (h : fx_env E D classes (tys cy) nestW) : fx_Met l yX12_three (.code yX12_three cX12_three 5 (some .int) :: wsL_law) ({ frames := 5, cells := 0, slots := 0, locals := 124 }) E (gsM, TM, cy, IM) ad D classes km320_c := by
  refine fx_hM2 (fun av ws rt hty hfs hwo hI => ?_)
  have hty0 := hty
  obtain ⟨x0, l0, rfl, q0, t0⟩ := ty_uc hty
  obtain ⟨a0, rfl, ha0⟩ := ok_rr (by decide) q0
  obtain ⟨x1, l1, rfl, q1, t1⟩ := ty_uc t0
  obtain ⟨z1, rfl, b1, c1, d1⟩ := ok_iz q1
  obtain ⟨x2, l2, rfl, q2, t2⟩ := ty_uc t1
  obtain ⟨z2, rfl, b2, c2, d2⟩ := ok_iz q2
  obtain ⟨x3, l3, rfl, q3, t3⟩ := ty_uc t2
  obtain ⟨z3, rfl, b3, c3, d3⟩ := ok_iz q3
  obtain rfl := ty_un t3
  refine ⟨_, _, h_three h a0 z1 z2 z3 ha0 d1 d2 d3, ⟨rfl, hI.2.2.1⟩, fun rv ws1 hwo1 hp => ?_⟩
  obtain ⟨sm, z, rfl⟩ := hp
  exact ⟨im_fr (cy := cy) (by decide +kernel) _ _ sm hI, sm, _, List.mem_cons_self, ⟨_, rfl, ok_top _⟩, hty0, ⟨_, rfl⟩⟩
-- X12_common 0 i i
def km321_c : fx_C := ([.inr (.inr 1), .inl (-2147483648, 2147483647), .inl (-2147483648, 2147483647)], [], [(some (.inl (-2147483648, 2147483647)), [.inr (.inr 1), .inl (-2147483648, 2147483647), .inl (-2147483648, 2147483647)], [])], [(12, 45), (12, 46), (12, 47), (12, 55), (1000, 27), (1000, 28), (1000, 34), (1000, 35)])
theorem km321 {l : Launch} {E : (Nat → Prop) → State → Prop} {ad : List Nat} {D : va_G} {cy : Nat → ClassId} (h : fx_env E D classes (tys cy) nestW) : fx_Met l yX12_common (.code yX12_common cX12_common 9 (some .int) :: wsL_law) ({ frames := 3, cells := 0, slots := 0, locals := 66 }) E (gsM, TM, cy, fun _ => True) ad D classes km321_c := by
  refine fx_hM2 (fun av ws rt hty hfs hwo hI => ?_)
  have hty0 := hty
  obtain ⟨x0, l0, rfl, q0, t0⟩ := ty_uc hty
  obtain ⟨a0, rfl, ha0⟩ := ok_rr (by decide) q0
  obtain ⟨x1, l1, rfl, q1, t1⟩ := ty_uc t0
  obtain ⟨z1, rfl, b1, c1, d1⟩ := ok_iz q1
  obtain ⟨x2, l2, rfl, q2, t2⟩ := ty_uc t1
  obtain ⟨z2, rfl, b2, c2, d2⟩ := ok_iz q2
  obtain rfl := ty_un t2
  refine ⟨_, _, h_common h a0 z1 z2 ha0 d1 d2, ⟨rfl, trivial⟩, fun rv ws1 hwo1 hp => ?_⟩
  obtain ⟨sm, z, rfl⟩ := hp
  exact ⟨trivial, sm, _, List.mem_cons_self, ⟨_, rfl, ok_top _⟩, hty0, ⟨_, rfl⟩⟩
-- X12_bitsOf i (0, 4095)
def km322_c : fx_C := ([.inl (0, 4095)], [], [(some (.inl (-2147483648, 2147483647)), [.inl (0, 4095)], [])], [])
theorem km322 {l : Launch} {E : (Nat → Prop) → State → Prop} {ad : List Nat} {D : va_G} {cy : Nat → ClassId} (h : fx_env E D classes (tys cy) nestW) : fx_Met l yX12_bitsOf (.code yX12_bitsOf cX12_bitsOf 3 (some .int) :: wsL_law) ({ frames := 0, cells := 0, slots := 0, locals := 0 }) E (gsM, TM, cy, fun _ => True) ad D classes km322_c := by
  refine fx_hM2 (fun av ws rt hty hfs hwo hI => ?_)
  have hty0 := hty
  obtain ⟨x0, l0, rfl, q0, t0⟩ := ty_uc hty
  obtain ⟨z0, rfl, b0, c0, d0⟩ := ok_iz q0
  obtain rfl := ty_un t0
  refine ⟨_, _, h_bitsOf h z0 (by omega) (by omega), ⟨rfl, trivial⟩, fun rv ws1 hwo1 hp => ?_⟩
  obtain ⟨rfl, z, rfl⟩ := hp
  exact ⟨trivial, fx_sm_refl, _, List.mem_cons_self, ⟨_, rfl, ok_top _⟩, hty0, ⟨_, rfl⟩⟩
-- X12_divisor i i (-2147483648, 2147483647) (1, 495)
def km323_c : fx_C := ([.inl (-2147483648, 2147483647), .inl (1, 495)], [], [(some (.inl (1, 2147483647)), [.inl (-2147483648, 2147483647), .inl (1, 495)], [])], [])
theorem km323 {l : Launch} {E : (Nat → Prop) → State → Prop} {ad : List Nat} {D : va_G} {cy : Nat → ClassId} (h : fx_env E D classes (tys cy) nestW) : fx_Met l yX12_divisor (.code yX12_divisor cX12_divisor 5 (some .int) :: wsL_law) ({ frames := 0, cells := 0, slots := 0, locals := 0 }) E (gsM, TM, cy, fun _ => True) ad D classes km323_c := by
  refine fx_hM2 (fun av ws rt hty hfs hwo hI => ?_)
  have hty0 := hty
  obtain ⟨x0, l0, rfl, q0, t0⟩ := ty_uc hty
  obtain ⟨z0, rfl, b0, c0, d0⟩ := ok_iz q0
  obtain ⟨x1, l1, rfl, q1, t1⟩ := ty_uc t0
  obtain ⟨z1, rfl, b1, c1, d1⟩ := ok_iz q1
  obtain rfl := ty_un t1
  refine ⟨_, _, h_divisor h z0 z1 d0 d1 (Or.inl (by omega)), ⟨rfl, trivial⟩, fun rv ws1 hwo1 hp => ?_⟩
  obtain ⟨rfl, z, rfl, k1, k2⟩ := hp
  exact ⟨trivial, fx_sm_refl, _, List.mem_cons_self, ⟨_, rfl, ok_z (by decide) (by decide) k1 k2⟩, hty0, ⟨_, rfl⟩⟩
-- X12_divisor i i (-2147483648, 2147483647) (1, 220)
def km324_c : fx_C := ([.inl (-2147483648, 2147483647), .inl (1, 220)], [], [(some (.inl (1, 2147483647)), [.inl (-2147483648, 2147483647), .inl (1, 220)], [])], [])
theorem km324 {l : Launch} {E : (Nat → Prop) → State → Prop} {ad : List Nat} {D : va_G} {cy : Nat → ClassId} (h : fx_env E D classes (tys cy) nestW) : fx_Met l yX12_divisor (.code yX12_divisor cX12_divisor 5 (some .int) :: wsL_law) ({ frames := 0, cells := 0, slots := 0, locals := 0 }) E (gsM, TM, cy, fun _ => True) ad D classes km324_c := by
  refine fx_hM2 (fun av ws rt hty hfs hwo hI => ?_)
  have hty0 := hty
  obtain ⟨x0, l0, rfl, q0, t0⟩ := ty_uc hty
  obtain ⟨z0, rfl, b0, c0, d0⟩ := ok_iz q0
  obtain ⟨x1, l1, rfl, q1, t1⟩ := ty_uc t0
  obtain ⟨z1, rfl, b1, c1, d1⟩ := ok_iz q1
  obtain rfl := ty_un t1
  refine ⟨_, _, h_divisor h z0 z1 d0 d1 (Or.inl (by omega)), ⟨rfl, trivial⟩, fun rv ws1 hwo1 hp => ?_⟩
  obtain ⟨rfl, z, rfl, k1, k2⟩ := hp
  exact ⟨trivial, fx_sm_refl, _, List.mem_cons_self, ⟨_, rfl, ok_z (by decide) (by decide) k1 k2⟩, hty0, ⟨_, rfl⟩⟩
-- X12_divisor i i (-2147483648, 2147483647) (1, 66)
def km325_c : fx_C := ([.inl (-2147483648, 2147483647), .inl (1, 66)], [], [(some (.inl (1, 2147483647)), [.inl (-2147483648, 2147483647), .inl (1, 66)], [])], [])
theorem km325 {l : Launch} {E : (Nat → Prop) → State → Prop} {ad : List Nat} {D : va_G} {cy : Nat → ClassId} (h : fx_env E D classes (tys cy) nestW) : fx_Met l yX12_divisor (.code yX12_divisor cX12_divisor 5 (some .int) :: wsL_law) ({ frames := 0, cells := 0, slots := 0, locals := 0 }) E (gsM, TM, cy, fun _ => True) ad D classes km325_c := by
  refine fx_hM2 (fun av ws rt hty hfs hwo hI => ?_)
  have hty0 := hty
  obtain ⟨x0, l0, rfl, q0, t0⟩ := ty_uc hty
  obtain ⟨z0, rfl, b0, c0, d0⟩ := ok_iz q0
  obtain ⟨x1, l1, rfl, q1, t1⟩ := ty_uc t0
  obtain ⟨z1, rfl, b1, c1, d1⟩ := ok_iz q1
  obtain rfl := ty_un t1
  refine ⟨_, _, h_divisor h z0 z1 d0 d1 (Or.inl (by omega)), ⟨rfl, trivial⟩, fun rv ws1 hwo1 hp => ?_⟩
  obtain ⟨rfl, z, rfl, k1, k2⟩ := hp
  exact ⟨trivial, fx_sm_refl, _, List.mem_cons_self, ⟨_, rfl, ok_z (by decide) (by decide) k1 k2⟩, hty0, ⟨_, rfl⟩⟩
-- X12_divisor i i (-2147483648, 2147483647) (1, 12)
def km326_c : fx_C := ([.inl (-2147483648, 2147483647), .inl (1, 12)], [], [(some (.inl (1, 2147483647)), [.inl (-2147483648, 2147483647), .inl (1, 12)], [])], [])
theorem km326 {l : Launch} {E : (Nat → Prop) → State → Prop} {ad : List Nat} {D : va_G} {cy : Nat → ClassId} (h : fx_env E D classes (tys cy) nestW) : fx_Met l yX12_divisor (.code yX12_divisor cX12_divisor 5 (some .int) :: wsL_law) ({ frames := 0, cells := 0, slots := 0, locals := 0 }) E (gsM, TM, cy, fun _ => True) ad D classes km326_c := by
  refine fx_hM2 (fun av ws rt hty hfs hwo hI => ?_)
  have hty0 := hty
  obtain ⟨x0, l0, rfl, q0, t0⟩ := ty_uc hty
  obtain ⟨z0, rfl, b0, c0, d0⟩ := ok_iz q0
  obtain ⟨x1, l1, rfl, q1, t1⟩ := ty_uc t0
  obtain ⟨z1, rfl, b1, c1, d1⟩ := ok_iz q1
  obtain rfl := ty_un t1
  refine ⟨_, _, h_divisor h z0 z1 d0 d1 (Or.inl (by omega)), ⟨rfl, trivial⟩, fun rv ws1 hwo1 hp => ?_⟩
  obtain ⟨rfl, z, rfl, k1, k2⟩ := hp
  exact ⟨trivial, fx_sm_refl, _, List.mem_cons_self, ⟨_, rfl, ok_z (by decide) (by decide) k1 k2⟩, hty0, ⟨_, rfl⟩⟩
-- X12_divisor i i (-2147483648, 2147483647) (1, 1)
def km327_c : fx_C := ([.inl (-2147483648, 2147483647), .inl (1, 1)], [], [(some (.inl (1, 2147483647)), [.inl (-2147483648, 2147483647), .inl (1, 1)], [])], [])
theorem km327 {l : Launch} {E : (Nat → Prop) → State → Prop} {ad : List Nat} {D : va_G} {cy : Nat → ClassId} (h : fx_env E D classes (tys cy) nestW) : fx_Met l yX12_divisor (.code yX12_divisor cX12_divisor 5 (some .int) :: wsL_law) ({ frames := 0, cells := 0, slots := 0, locals := 0 }) E (gsM, TM, cy, fun _ => True) ad D classes km327_c := by
  refine fx_hM2 (fun av ws rt hty hfs hwo hI => ?_)
  have hty0 := hty
  obtain ⟨x0, l0, rfl, q0, t0⟩ := ty_uc hty
  obtain ⟨z0, rfl, b0, c0, d0⟩ := ok_iz q0
  obtain ⟨x1, l1, rfl, q1, t1⟩ := ty_uc t0
  obtain ⟨z1, rfl, b1, c1, d1⟩ := ok_iz q1
  obtain rfl := ty_un t1
  refine ⟨_, _, h_divisor h z0 z1 d0 d1 (Or.inl (by omega)), ⟨rfl, trivial⟩, fun rv ws1 hwo1 hp => ?_⟩
  obtain ⟨rfl, z, rfl, k1, k2⟩ := hp
  exact ⟨trivial, fx_sm_refl, _, List.mem_cons_self, ⟨_, rfl, ok_z (by decide) (by decide) k1 k2⟩, hty0, ⟨_, rfl⟩⟩
-- X12_later 0 i
def km328_c : fx_C := ([.inr (.inr 1), .inl (-2147483648, 2147483647)], [], [(some (.inl (-2147483648, 2147483647)), [.inr (.inr 1), .inl (-2147483648, 2147483647)], [])], [(12, 70)])
theorem km328 {l : Launch} {E : (Nat → Prop) → State → Prop} {ad : List Nat} {D : va_G} {cy : Nat → ClassId} (h : fx_env E D classes (tys cy) nestW) : fx_Met l yX12_later (.code yX12_later cX12_later 2 (some .int) :: wsL_law) ({ frames := 1, cells := 0, slots := 0, locals := 22 }) E (gsM, TM, cy, fun _ => True) ad D classes km328_c := by
  refine fx_hM2 (fun av ws rt hty hfs hwo hI => ?_)
  have hty0 := hty
  obtain ⟨x0, l0, rfl, q0, t0⟩ := ty_uc hty
  obtain ⟨a0, rfl, ha0⟩ := ok_rr (by decide) q0
  obtain ⟨x1, l1, rfl, q1, t1⟩ := ty_uc t0
  obtain ⟨z1, rfl, b1, c1, d1⟩ := ok_iz q1
  obtain rfl := ty_un t1
  refine ⟨_, _, h_later h a0 z1 ha0 d1, ⟨rfl, trivial⟩, fun rv ws1 hwo1 hp => ?_⟩
  obtain ⟨sm, k⟩ := hp
  exact ⟨trivial, sm, _, List.mem_cons_self, (by rcases k with ⟨-, -, -, -, rfl⟩ | ⟨-, -, rfl⟩ <;> exact ⟨_, rfl, ok_top _⟩), hty0, ⟨_, rfl⟩⟩
