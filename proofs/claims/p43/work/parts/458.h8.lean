theorem m_1198 : Cond.methodLink RX12 464 yX12_showSource ∈ wsL_law := in_wsL_law_r50 _ (List.mem_of_getElem? (i := 22) rfl)
theorem m_1199 : Cond.instanceMethod yX12_showSource ∈ wsL_law := in_wsL_law_r50 _ (List.mem_of_getElem? (i := 23) rfl)
theorem m_1200 : Cond.selects RX12 yX12_showSource yX12_showSource ∈ wsL_law := in_wsL_law_r51 _ (List.mem_of_getElem? (i := 0) rfl)
theorem m_1201 : Cond.code yX12_showSource cX12_showSource 5 (some .int) ∈ wsL_law := in_wsL_law_r51 _ (List.mem_of_getElem? (i := 1) rfl)
theorem iV_X12_showSource : yX12_showSource.cls = RX12 ∧ yX12_showSource.cls ≠ "java/lang/invoke/MethodHandle" ∧ yX12_showSource.cls ≠ "java/lang/invoke/VarHandle" ∧ (parseMethodDescriptor yX12_showSource.desc).map (fun d => d.parameters.length) = some 0 := by decide +kernel
theorem g_X12_464 : GoodIn wsL_law (wsV RX12 464 RX12 yX12_showSource (.code yX12_showSource cX12_showSource 5 (some .int) :: wsL_law)) := gdV m_1198 m_1199 m_1200 m_5 m_1201
theorem dX12_layBoth_0 : decode cX12_layBoth 0 = .ok (.aload_n 0, 1) := by decide +kernel
theorem dX12_layBoth_1 : decode cX12_layBoth 1 = .ok (.iload_n 1, 1) := by decide +kernel
theorem dX12_layBoth_2 : decode cX12_layBoth 2 = .ok (.invokevirtual 363, 3) := by decide +kernel
theorem dX12_layBoth_5 : decode cX12_layBoth 5 = .ok (.ifCond .eq 11, 3) := by decide +kernel
theorem dX12_layBoth_16 : decode cX12_layBoth 16 = .ok (.iconst 0, 1) := by decide +kernel
theorem dX12_layBoth_17 : decode cX12_layBoth 17 = .ok (.ireturn, 1) := by decide +kernel
theorem dX12_layBoth_8 : decode cX12_layBoth 8 = .ok (.aload_n 0, 1) := by decide +kernel
theorem dX12_layBoth_9 : decode cX12_layBoth 9 = .ok (.iload_n 2, 1) := by decide +kernel
theorem dX12_layBoth_10 : decode cX12_layBoth 10 = .ok (.invokevirtual 363, 3) := by decide +kernel
theorem dX12_layBoth_13 : decode cX12_layBoth 13 = .ok (.ifCond .ne 5, 3) := by decide +kernel
theorem dX12_layBoth_18 : decode cX12_layBoth 18 = .ok (.aload_n 0, 1) := by decide +kernel
theorem dX12_layBoth_19 : decode cX12_layBoth 19 = .ok (.iload_n 1, 1) := by decide +kernel
theorem dX12_layBoth_20 : decode cX12_layBoth 20 = .ok (.invokevirtual 403, 3) := by decide +kernel
theorem dX12_layBoth_23 : decode cX12_layBoth 23 = .ok (.aload_n 0, 1) := by decide +kernel
theorem dX12_layBoth_24 : decode cX12_layBoth 24 = .ok (.iload_n 2, 1) := by decide +kernel
theorem dX12_layBoth_25 : decode cX12_layBoth 25 = .ok (.invokevirtual 431, 3) := by decide +kernel
theorem dX12_layBoth_28 : decode cX12_layBoth 28 = .ok (.aload_n 0, 1) := by decide +kernel
theorem dX12_layBoth_29 : decode cX12_layBoth 29 = .ok (.iconst 0, 1) := by decide +kernel
theorem dX12_layBoth_30 : decode cX12_layBoth 30 = .ok (.putfield 443, 3) := by decide +kernel
theorem dX12_layBoth_33 : decode cX12_layBoth 33 = .ok (.iconst 1, 1) := by decide +kernel
theorem dX12_layBoth_34 : decode cX12_layBoth 34 = .ok (.ireturn, 1) := by decide +kernel
theorem dX12_source_0 : decode cX12_source 0 = .ok (.aload_n 0, 1) := by decide +kernel
theorem dX12_source_1 : decode cX12_source 1 = .ok (.iconst 0, 1) := by decide +kernel
theorem dX12_source_2 : decode cX12_source 2 = .ok (.putfield 375, 3) := by decide +kernel
theorem dX12_source_5 : decode cX12_source 5 = .ok (.aload_n 0, 1) := by decide +kernel
theorem dX12_source_6 : decode cX12_source 6 = .ok (.iload_n 1, 1) := by decide +kernel
theorem dX12_source_7 : decode cX12_source 7 = .ok (.iload_n 2, 1) := by decide +kernel
theorem dX12_source_8 : decode cX12_source 8 = .ok (.invokevirtual 460, 3) := by decide +kernel
theorem dX12_source_11 : decode cX12_source 11 = .ok (.ifCond .eq 10, 3) := by decide +kernel
theorem dX12_source_21 : decode cX12_source 21 = .ok (.iconst (-1), 1) := by decide +kernel
theorem dX12_source_22 : decode cX12_source 22 = .ok (.ireturn, 1) := by decide +kernel
theorem dX12_source_14 : decode cX12_source 14 = .ok (.aload_n 0, 1) := by decide +kernel
theorem dX12_source_15 : decode cX12_source 15 = .ok (.invokevirtual 464, 3) := by decide +kernel
theorem dX12_source_18 : decode cX12_source 18 = .ok (.goto 4, 3) := by decide +kernel
def SL (ws : va_W) (s : Int) : Prop := 0 ≤ s ∧ s ≤ vi ws 5 (Int.toNat (vi ws 0 34)) - 1
def LAID (ws w : va_W) (fl gr : Nat) (s : Int) : Prop := vi w 0 fl = lenW ws s ∧ 0 ≤ lenW ws s ∧ lenW ws s ≤ 8 ∧ ∀ j : Nat, (j : Int) < lenW ws s → vi w gr j = wrdW ws s j ∧ 0 ≤ wrdW ws s j
theorem LAID_sm {cy : Nat → ClassId} {ad : List Nat} {md : List (Nat × Nat)} {ws w w' : va_W} {fl gr : Nat} {s : Int} {G : Nat × Nat × List fx_T} (hw : fx_wo (gsM, TM, cy, fun _ => True) ad w) (hw' : fx_wo (gsM, TM, cy, fun _ => True) ad w') (hs : fx_sm (gsM, TM, cy, fun _ => True) md w w') (hT : TM[gr]? = some (.inr G)) (hm : (12, fl) ∉ md ∧ (1000, gr) ∉ md) (h : LAID ws w fl gr s) : LAID ws w' fl gr s := by
  obtain ⟨h1, h2, h3, h4⟩ := h
  refine ⟨by rw [sm_f hw hw' hs hm.1]; exact h1, h2, h3, fun j hj => ?_⟩
  rw [sm_a hw hw' hs hT hm.2]
  exact h4 j hj
theorem LAID_pre {cy : Nat → ClassId} {ad : List Nat} {md : List (Nat × Nat)} {ws w w' : va_W} {fl gr : Nat} {s : Int} (hw : fx_wo (gsM, TM, cy, fun _ => True) ad ws) (hw' : fx_wo (gsM, TM, cy, fun _ => True) ad w) (hs : fx_sm (gsM, TM, cy, fun _ => True) md ws w) (hm : (12, 34) ∉ md ∧ (1000, 26) ∉ md ∧ (1000, 14) ∉ md ∧ (1000, 13) ∉ md) (h : LAID w w' fl gr s) : LAID ws w' fl gr s := by
  obtain ⟨h1, h2, h3, h4⟩ := h
  have e := (wrd_sm hw hw' hs hm s 0).2
  rw [e] at h1 h2 h3
  refine ⟨h1, h2, h3, fun j hj => ?_⟩
  rw [← e] at hj
  have q := h4 j hj
  rw [(wrd_sm hw hw' hs hm s j).1] at q
  exact q
theorem SL_sm {cy : Nat → ClassId} {ad : List Nat} {md : List (Nat × Nat)} {w w' : va_W} {s : Int} (hw : fx_wo (gsM, TM, cy, fun _ => True) ad w) (hw' : fx_wo (gsM, TM, cy, fun _ => True) ad w') (hs : fx_sm (gsM, TM, cy, fun _ => True) md w w') (hm : (12, 34) ∉ md ∧ (1000, 5) ∉ md) : SL w' s ↔ SL w s := by
  unfold SL
  rw [sm_f hw hw' hs hm.1, sm_a hw hw' hs TMa_5 hm.2]
theorem sw_sm {cy : Nat → ClassId} {ad : List Nat} {md : List (Nat × Nat)} {w w' : va_W} (hw : fx_wo (gsM, TM, cy, fun _ => True) ad w) (hw' : fx_wo (gsM, TM, cy, fun _ => True) ad w') (hs : fx_sm (gsM, TM, cy, fun _ => True) md w w') (hm : (1000, 3) ∉ md ∧ (1000, 5) ∉ md ∧ (1000, 13) ∉ md ∧ (1000, 14) ∉ md) (h : imSW w) : imSW w' := by
  intro b s k hb h1 h2
  rw [sm_a hw hw' hs TMa_5 hm.2.1] at h1
  rw [sm_a hw hw' hs TMa_13 hm.2.2.1] at h2
  rw [sm_a hw hw' hs TMa_14 hm.2.2.2, sm_a hw hw' hs TMa_3 hm.1]
  exact h b s k hb h1 h2
theorem OW_of {ws w : va_W} {fl gr : Nat} {s : Int} (hB : 0 ≤ vi ws 0 34 ∧ vi ws 0 34 ≤ 1) (h : imSW ws) (hs : SL ws s) (hl : LAID ws w fl gr s) : OWs (vi w 0 fl) (vi ws 3 (Int.toNat (vi ws 0 34))) (vi w gr) := by
  obtain ⟨l1, l2, l3, l4⟩ := hl
  obtain ⟨s1, s2⟩ := hs
  intro j hj
  rw [l1] at hj
  obtain ⟨q1, q2⟩ := l4 j hj
  rw [q1]
  refine ⟨q2, ?_⟩
  have hne : ¬ s = -1 := by omega
  unfold wrdW
  unfold lenW at hj
  rw [if_neg hne] at hj ⊢
  have e1 : Int.toNat (5 * vi ws 0 34 + s) = 5 * (vi ws 0 34).toNat + s.toNat := by omega
  have e2 : Int.toNat (8 * (5 * vi ws 0 34 + s) + (j : Int)) = 8 * (5 * (vi ws 0 34).toNat + s.toNat) + j := by omega
  rw [e1] at hj
  rw [e2]
  exact h (vi ws 0 34).toNat s.toNat j (by omega) (by omega) hj

set_option maxRecDepth 100000 in
set_option maxHeartbeats 4000000 in
theorem h_layBoth {l : Launch} {E : (Nat → Prop) → State → Prop} {ad : List Nat} {D : va_G} {cy : Nat → ClassId} (h : fx_env E D classes (tys cy) nestW) (r : Nat) (u v : Int) (hr0 : ad[0]? = some r) (hu : rg u) (hv : rg v) : hM l yX12_layBoth cX12_layBoth 3 (some .boolean) ({ frames := 2, cells := 0, slots := 0, locals := 44 }) E ad D cy (fun av ws => av = [.ref r, zv u, zv v] ∧ True) (fun _ ws rv ws1 => fx_sm (gsM, TM, cy, fun _ => True) [(12, 45), (12, 46), (12, 47), (1000, 27), (1000, 28)] ws ws1 ∧ ∃ z, rv = some (zv z) ∧ (z = 0 ∨ (z = 1 ∧ SL ws u ∧ SL ws v ∧ LAID ws ws1 45 27 u ∧ LAID ws ws1 46 28 v ∧ vi ws1 0 47 = 0))) := by
  refine hM_of h (by decide) ?_
  intro av ws p e s m below meth c hwo hnd hpre hlocks hr C
  obtain ⟨rfl, hpre⟩ := hpre
  refine ⟨Nat.le_of_ble_eq_true rfl, ?_⟩
  simp only [rg] at hu hv
  have hB := fl_b (fi := 34) (lo := 0) (hi := 1) hwo hr0 rfl
  have hS := el_b (fi := 13) (g := 5) (n := 2) (lo := 0) (hi := 5) (j := Int.toNat (vi ws 0 34)) hwo hr0 rfl (by decide) TMa_5 (by omega)
  refine hr_pick (lv' := [(0, .ref r), (1, zv u), (2, zv v)]) [0, 1, 2] rfl ?_
  refine hr_aln C 0 dX12_layBoth_0 rfl rfl rfl ?_
  refine hr_iln C 1 dX12_layBoth_1 rfl rfl rfl ?_
  refine hr_cV (As := [zv (u)]) (rest := []) C (h_isSlip h r (u) hr0 ⟨by omega, by omega⟩) ⟨by decide, by decide⟩ iV_X12_isSlip g_X12_363 TM0 hr0 dX12_layBoth_2 rfl rfl (Nat.le_of_ble_eq_true rfl) rfl ⟨rfl, trivial⟩ (fun w1 rv o2 q3 => ?_)
  obtain ⟨rfl, rfl⟩ := q3
  obtain ⟨t4, et5⟩ : ∃ t, t = (if 0 ≤ u ∧ u ≤ vi ws 5 (Int.toNat (vi ws 0 34)) - 1 then 1 else 0 : Int) := ⟨_, rfl⟩
  rw [← et5]
  have e6 : (t4 = 1 ∧ (0 ≤ u ∧ u ≤ vi ws 5 (Int.toNat (vi ws 0 34)) - 1)) ∨ (t4 = 0 ∧ ¬ (0 ≤ u ∧ u ≤ vi ws 5 (Int.toNat (vi ws 0 34)) - 1)) := by rw [et5]; split <;> simp_all
  clear et5
  refine hr_norm (st' := [zv (t4)]) rfl ?_
  refine hr_if C 16 dX12_layBoth_5 (by decide) ⟨by omega, by omega⟩ rfl (fun c7 => ?_) (fun c7 => ?_)
  · have c7 : (t4 : Int) = 0 := c7
    refine hr_ic C dX12_layBoth_16 rfl ?_
    exact hr_zret C hlocks hr (Or.inl rfl) dX12_layBoth_17 ⟨fx_sm_refl, _, rfl, Or.inl rfl⟩
  · have c7 : ¬ (t4 : Int) = 0 := c7
    refine hr_aln C 0 dX12_layBoth_8 rfl rfl rfl ?_
    refine hr_iln C 2 dX12_layBoth_9 rfl rfl rfl ?_
    refine hr_cV (As := [zv (v)]) (rest := []) C (h_isSlip h r (v) hr0 ⟨by omega, by omega⟩) ⟨by decide, by decide⟩ iV_X12_isSlip g_X12_363 TM0 hr0 dX12_layBoth_10 rfl rfl (Nat.le_of_ble_eq_true rfl) rfl ⟨rfl, trivial⟩ (fun w8 rv o9 q10 => ?_)
    obtain ⟨rfl, rfl⟩ := q10
    obtain ⟨t11, et12⟩ : ∃ t, t = (if 0 ≤ v ∧ v ≤ vi ws 5 (Int.toNat (vi ws 0 34)) - 1 then 1 else 0 : Int) := ⟨_, rfl⟩
    rw [← et12]
    have e13 : (t11 = 1 ∧ (0 ≤ v ∧ v ≤ vi ws 5 (Int.toNat (vi ws 0 34)) - 1)) ∨ (t11 = 0 ∧ ¬ (0 ≤ v ∧ v ≤ vi ws 5 (Int.toNat (vi ws 0 34)) - 1)) := by rw [et12]; split <;> simp_all
    clear et12
    refine hr_norm (st' := [zv (t11)]) rfl ?_
    refine hr_if C 18 dX12_layBoth_13 (by decide) ⟨by omega, by omega⟩ rfl (fun c14 => ?_) (fun c14 => ?_)
    · have c14 : ¬ (t11 : Int) = 0 := c14
      refine hr_aln C 0 dX12_layBoth_18 rfl rfl rfl ?_
      refine hr_iln C 1 dX12_layBoth_19 rfl rfl rfl ?_
      refine hr_cV (As := [zv (u)]) (rest := []) C (h_layOne h r (u) hr0 ⟨by omega, by omega⟩) ⟨by decide, by decide⟩ iV_X12_layOne g_X12_403 TM0 hr0 dX12_layBoth_20 rfl rfl (Nat.le_of_ble_eq_true rfl) rfl ⟨rfl, trivial⟩ (fun w15 rv o16 q17 => ?_)
      obtain ⟨s18, rfl, l19, l20, l21, l22, l23⟩ := q17
      have lam24 : LAID ws w15 45 27 (u) := ⟨l19, l20, l22 (by omega), l23⟩
      refine hr_aln C 0 dX12_layBoth_23 rfl rfl rfl ?_
      refine hr_iln C 2 dX12_layBoth_24 rfl rfl rfl ?_
      refine hr_cV (As := [zv (v)]) (rest := []) C (h_layTwo h r (v) hr0 ⟨by omega, by omega⟩) ⟨by decide, by decide⟩ iV_X12_layTwo g_X12_431 TM0 hr0 dX12_layBoth_25 rfl rfl (Nat.le_of_ble_eq_true rfl) rfl ⟨rfl, trivial⟩ (fun w25 rv o26 q27 => ?_)
      obtain ⟨s28, rfl, l29, l30, l31, l32, l33⟩ := q27
      have lam34 : LAID w15 w25 46 28 (v) := ⟨l29, l30, l32 (by omega), l33⟩
      refine hr_aln C 0 dX12_layBoth_28 rfl rfl rfl ?_
      refine hr_ic C dX12_layBoth_29 rfl ?_
      refine hr_pI (lo := 0) (hi := 12) C hr0 TM0 rfl ⟨by decide, by decide⟩ pl_X12_443 dX12_layBoth_30 (by omega) (by omega) rfl (fun w35 o36 s37 e38 => ?_)
      refine hr_ic C dX12_layBoth_33 rfl ?_
      have f1 := LAID_sm o16 o26 s28 TMa_27 (by decide) lam24
      have f2 := LAID_sm o26 o36 s37 TMa_27 (by decide) f1
      have f3 := LAID_pre hwo o16 s18 (by decide) lam34
      have f4 := LAID_sm o26 o36 s37 TMa_28 (by decide) f3
      exact hr_zret C hlocks hr (Or.inr rfl) dX12_layBoth_34 ⟨(fx_sm_tr (fx_sm_tr (fx_sm_tr fx_sm_refl s18 (by decide)) s28 (by decide)) s37 (by decide)), _, rfl, Or.inr ⟨rfl, ⟨by omega, by omega⟩, ⟨by omega, by omega⟩, f2, f4, by rw [e38, if_pos ⟨rfl, rfl⟩]⟩⟩
    · have c14 : (t11 : Int) = 0 := c14
      refine hr_ic C dX12_layBoth_16 rfl ?_
      exact hr_zret C hlocks hr (Or.inl rfl) dX12_layBoth_17 ⟨fx_sm_refl, _, rfl, Or.inl rfl⟩
set_option maxRecDepth 100000 in
set_option maxHeartbeats 4000000 in
theorem h_source {l : Launch} {E : (Nat → Prop) → State → Prop} {ad : List Nat} {D : va_G} {cy : Nat → ClassId} (h : fx_env E D classes (tys cy) nestW) (r : Nat) (u v : Int) (hr0 : ad[0]? = some r) (hu : rg u) (hv : rg v) : hM l yX12_source cX12_source 3 (some .int) ({ frames := 5, cells := 0, slots := 0, locals := 124 }) E ad D cy (fun av ws => av = [.ref r, zv u, zv v] ∧ imSW ws) (fun _ ws rv ws1 => fx_sm (gsM, TM, cy, fun _ => True) [(12, 45), (12, 46), (12, 47), (12, 55), (1000, 27), (1000, 28), (1000, 32), (1000, 33), (1000, 34)] ws ws1 ∧ ∃ z, rv = some (zv z)) := by
  refine hM_of h (by decide) ?_
  intro av ws p e s m below meth c hwo hnd hpre hlocks hr C
  obtain ⟨rfl, hpre⟩ := hpre
  refine ⟨Nat.le_of_ble_eq_true rfl, ?_⟩
  simp only [rg] at hu hv
  refine hr_pick (lv' := [(0, .ref r), (1, zv u), (2, zv v)]) [0, 1, 2] rfl ?_
  refine hr_aln C 0 dX12_source_0 rfl rfl rfl ?_
  refine hr_ic C dX12_source_1 rfl ?_
  refine hr_pI (lo := 0) (hi := 36) C hr0 TM0 rfl ⟨by decide, by decide⟩ pl_X12_375 dX12_source_2 (by omega) (by omega) rfl (fun w1 o2 s3 e4 => ?_)
  refine hr_aln C 0 dX12_source_5 rfl rfl rfl ?_
  refine hr_iln C 1 dX12_source_6 rfl rfl rfl ?_
  refine hr_iln C 2 dX12_source_7 rfl rfl rfl ?_
  refine hr_cV (As := [zv (u), zv (v)]) (rest := []) C (h_layBoth h r (u) (v) hr0 ⟨by omega, by omega⟩ ⟨by omega, by omega⟩) ⟨by decide, by decide⟩ iV_X12_layBoth g_X12_460 TM0 hr0 dX12_source_8 rfl rfl (Nat.le_of_ble_eq_true rfl) rfl ⟨rfl, trivial⟩ (fun w5 rv o6 q7 => ?_)
  obtain ⟨s8, z9, rfl, hz⟩ := q7
  have hz1 : z9 = 0 ∨ z9 = 1 := hz.elim Or.inl (fun q => Or.inr q.1)
  refine hr_norm (st' := [zv (z9)]) rfl ?_
  refine hr_if C 21 dX12_source_11 (by decide) ⟨by omega, by omega⟩ rfl (fun c10 => ?_) (fun c10 => ?_)
  · have c10 : (z9 : Int) = 0 := c10
    refine hr_ic C dX12_source_21 rfl ?_
    exact hr_iret C hlocks hr dX12_source_22 ⟨(fx_sm_tr (fx_sm_tr fx_sm_refl s3 (by decide)) s8 (by decide)), _, rfl⟩
  · have c10 : ¬ (z9 : Int) = 0 := c10
    refine hr_aln C 0 dX12_source_14 rfl rfl rfl ?_
    obtain ⟨-, hs1, hs2, hl1, hl2, hl3⟩ := hz.resolve_left (by omega)
    have hB1 := fl_b (fi := 34) (lo := 0) (hi := 1) o2 hr0 rfl
    have hS1 := el_b (fi := 13) (g := 5) (n := 2) (lo := 0) (hi := 5) (j := Int.toNat (vi w1 0 34)) o2 hr0 rfl (by decide) TMa_5 (by omega)
    have hW := el_b (fi := 11) (g := 3) (n := 2) (lo := 0) (hi := 9) (j := Int.toNat (vi w1 0 34)) o2 hr0 rfl (by decide) TMa_3 (by omega)
    have sw1 : imSW w1 := sw_sm hwo o2 s3 (by decide) hpre
    have ow1 := OW_of hB1 sw1 hs1 hl1
    have ow2 := OW_of hB1 sw1 hs2 hl2
    have eW : vi w5 3 (Int.toNat (vi w5 0 34)) = vi w1 3 (Int.toNat (vi w1 0 34)) := by rw [sm_f o2 o6 s8 (by decide), sm_a o2 o6 s8 TMa_3 (by decide)]
    have hlen := And.intro hl1.1 (And.intro hl2.1 (And.intro hl1.2.1 (And.intro hl1.2.2.1 (And.intro hl2.2.1 hl2.2.2.1))))
    have hlaid : vi w5 0 55 = 0 := by rw [sm_f o2 o6 s8 (by decide)]; rw [e4, if_pos ⟨rfl, rfl⟩]
    refine hr_cV (As := []) (rest := []) C (h_showSource h r (vi w5 0 45) (vi w5 0 46) (vi w5 0 47) (vi w1 3 (Int.toNat (vi w1 0 34))) (vi w5 27) (vi w5 28) (vi w5 29) hr0 ⟨by omega, by omega, by omega⟩ ⟨by omega, by omega, by omega⟩ (by omega) (by omega) ow1 ow2 (fun j hj => by omega)) ⟨by decide, by decide⟩ iV_X12_showSource g_X12_464 TM0 hr0 dX12_source_15 rfl rfl (Nat.le_of_ble_eq_true rfl) rfl ⟨rfl, ⟨rfl, rfl, rfl, eW, fun _ => rfl, fun _ => rfl, fun _ => rfl⟩, hlaid⟩ (fun w11 rv o12 q13 => ?_)
    obtain ⟨s14, z15, rfl, y1, y2⟩ := q13
    refine hr_norm (st' := [zv (z15)]) rfl ?_
    refine hr_goto C 22 dX12_source_18 (by decide) ?_
    exact hr_iret C hlocks hr dX12_source_22 ⟨(fx_sm_tr (fx_sm_tr (fx_sm_tr fx_sm_refl s3 (by decide)) s8 (by decide)) s14 (by decide)), _, rfl⟩
