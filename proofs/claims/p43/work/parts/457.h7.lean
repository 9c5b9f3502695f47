theorem dX12_isSlip_0 : decode cX12_isSlip 0 = .ok (.iload_n 1, 1) := by decide +kernel
theorem dX12_isSlip_1 : decode cX12_isSlip 1 = .ok (.iconst 0, 1) := by decide +kernel
theorem dX12_isSlip_2 : decode cX12_isSlip 2 = .ok (.aload_n 0, 1) := by decide +kernel
theorem dX12_isSlip_3 : decode cX12_isSlip 3 = .ok (.getfield 27, 3) := by decide +kernel
theorem dX12_isSlip_6 : decode cX12_isSlip 6 = .ok (.aload_n 0, 1) := by decide +kernel
theorem dX12_isSlip_7 : decode cX12_isSlip 7 = .ok (.getfield 274, 3) := by decide +kernel
theorem dX12_isSlip_10 : decode cX12_isSlip 10 = .ok (.iaload, 1) := by decide +kernel
theorem dX12_isSlip_11 : decode cX12_isSlip 11 = .ok (.iconst 1, 1) := by decide +kernel
theorem dX12_isSlip_12 : decode cX12_isSlip 12 = .ok (.isub, 1) := by decide +kernel
theorem dX12_isSlip_13 : decode cX12_isSlip 13 = .ok (.invokestatic 359, 3) := by decide +kernel
theorem dX12_isSlip_16 : decode cX12_isSlip 16 = .ok (.ireturn, 1) := by decide +kernel
theorem dX12_longOf_0 : decode cX12_longOf 0 = .ok (.iload_n 1, 1) := by decide +kernel
theorem dX12_longOf_1 : decode cX12_longOf 1 = .ok (.iconst (-1), 1) := by decide +kernel
theorem dX12_longOf_2 : decode cX12_longOf 2 = .ok (.if_icmp .ne 13, 3) := by decide +kernel
theorem dX12_longOf_15 : decode cX12_longOf 15 = .ok (.aload_n 0, 1) := by decide +kernel
theorem dX12_longOf_16 : decode cX12_longOf 16 = .ok (.getfield 51, 3) := by decide +kernel
theorem dX12_longOf_19 : decode cX12_longOf 19 = .ok (.iconst 5, 1) := by decide +kernel
theorem dX12_longOf_20 : decode cX12_longOf 20 = .ok (.aload_n 0, 1) := by decide +kernel
theorem dX12_longOf_21 : decode cX12_longOf 21 = .ok (.getfield 274, 3) := by decide +kernel
theorem dX12_longOf_24 : decode cX12_longOf 24 = .ok (.imul, 1) := by decide +kernel
theorem dX12_longOf_25 : decode cX12_longOf 25 = .ok (.iload_n 1, 1) := by decide +kernel
theorem dX12_longOf_26 : decode cX12_longOf 26 = .ok (.iadd, 1) := by decide +kernel
theorem dX12_longOf_27 : decode cX12_longOf 27 = .ok (.iaload, 1) := by decide +kernel
theorem dX12_longOf_28 : decode cX12_longOf 28 = .ok (.ireturn, 1) := by decide +kernel
theorem dX12_longOf_5 : decode cX12_longOf 5 = .ok (.aload_n 0, 1) := by decide +kernel
theorem dX12_longOf_6 : decode cX12_longOf 6 = .ok (.getfield 92, 3) := by decide +kernel
theorem dX12_longOf_9 : decode cX12_longOf 9 = .ok (.bipush 12, 2) := by decide +kernel
theorem dX12_longOf_11 : decode cX12_longOf 11 = .ok (.iaload, 1) := by decide +kernel
theorem dX12_longOf_12 : decode cX12_longOf 12 = .ok (.goto 16, 3) := by decide +kernel
theorem dX12_wordOf_0 : decode cX12_wordOf 0 = .ok (.iload_n 1, 1) := by decide +kernel
theorem dX12_wordOf_1 : decode cX12_wordOf 1 = .ok (.iconst (-1), 1) := by decide +kernel
theorem dX12_wordOf_2 : decode cX12_wordOf 2 = .ok (.if_icmp .ne 14, 3) := by decide +kernel
theorem dX12_wordOf_16 : decode cX12_wordOf 16 = .ok (.aload_n 0, 1) := by decide +kernel
theorem dX12_wordOf_17 : decode cX12_wordOf 17 = .ok (.getfield 54, 3) := by decide +kernel
theorem dX12_wordOf_20 : decode cX12_wordOf 20 = .ok (.bipush 8, 2) := by decide +kernel
theorem dX12_wordOf_22 : decode cX12_wordOf 22 = .ok (.iconst 5, 1) := by decide +kernel
theorem dX12_wordOf_23 : decode cX12_wordOf 23 = .ok (.aload_n 0, 1) := by decide +kernel
theorem dX12_wordOf_24 : decode cX12_wordOf 24 = .ok (.getfield 274, 3) := by decide +kernel
theorem dX12_wordOf_27 : decode cX12_wordOf 27 = .ok (.imul, 1) := by decide +kernel
theorem dX12_wordOf_28 : decode cX12_wordOf 28 = .ok (.iload_n 1, 1) := by decide +kernel
theorem dX12_wordOf_29 : decode cX12_wordOf 29 = .ok (.iadd, 1) := by decide +kernel
theorem dX12_wordOf_30 : decode cX12_wordOf 30 = .ok (.imul, 1) := by decide +kernel
theorem dX12_wordOf_31 : decode cX12_wordOf 31 = .ok (.iload_n 2, 1) := by decide +kernel
theorem dX12_wordOf_32 : decode cX12_wordOf 32 = .ok (.iadd, 1) := by decide +kernel
theorem dX12_wordOf_33 : decode cX12_wordOf 33 = .ok (.iaload, 1) := by decide +kernel
theorem dX12_wordOf_34 : decode cX12_wordOf 34 = .ok (.ireturn, 1) := by decide +kernel
theorem dX12_wordOf_5 : decode cX12_wordOf 5 = .ok (.aload_n 0, 1) := by decide +kernel
theorem dX12_wordOf_6 : decode cX12_wordOf 6 = .ok (.getfield 92, 3) := by decide +kernel
theorem dX12_wordOf_9 : decode cX12_wordOf 9 = .ok (.iconst 0, 1) := by decide +kernel
theorem dX12_wordOf_10 : decode cX12_wordOf 10 = .ok (.iload_n 2, 1) := by decide +kernel
theorem dX12_wordOf_11 : decode cX12_wordOf 11 = .ok (.iadd, 1) := by decide +kernel
theorem dX12_wordOf_12 : decode cX12_wordOf 12 = .ok (.iaload, 1) := by decide +kernel
theorem dX12_wordOf_13 : decode cX12_wordOf 13 = .ok (.goto 21, 3) := by decide +kernel
theorem dX12_layOne_11 : decode cX12_layOne 11 = .ok (.iload_n 2, 1) := by decide +kernel
theorem dX12_layOne_12 : decode cX12_layOne 12 = .ok (.aload_n 0, 1) := by decide +kernel
theorem dX12_layOne_13 : decode cX12_layOne 13 = .ok (.getfield 384, 3) := by decide +kernel
theorem dX12_layOne_16 : decode cX12_layOne 16 = .ok (.if_icmp .ge 21, 3) := by decide +kernel
theorem dX12_layOne_37 : decode cX12_layOne 37 = .ok (.return_, 1) := by decide +kernel
theorem dX12_layOne_19 : decode cX12_layOne 19 = .ok (.aload_n 0, 1) := by decide +kernel
theorem dX12_layOne_20 : decode cX12_layOne 20 = .ok (.getfield 95, 3) := by decide +kernel
theorem dX12_layOne_23 : decode cX12_layOne 23 = .ok (.iload_n 2, 1) := by decide +kernel
theorem dX12_layOne_24 : decode cX12_layOne 24 = .ok (.aload_n 0, 1) := by decide +kernel
theorem dX12_layOne_25 : decode cX12_layOne 25 = .ok (.iload_n 1, 1) := by decide +kernel
theorem dX12_layOne_26 : decode cX12_layOne 26 = .ok (.iload_n 2, 1) := by decide +kernel
theorem dX12_layOne_27 : decode cX12_layOne 27 = .ok (.invokevirtual 387, 3) := by decide +kernel
theorem dX12_layOne_30 : decode cX12_layOne 30 = .ok (.iastore, 1) := by decide +kernel
theorem dX12_layOne_31 : decode cX12_layOne 31 = .ok (.iinc 2 1, 3) := by decide +kernel
theorem dX12_layOne_34 : decode cX12_layOne 34 = .ok (.goto (-23), 3) := by decide +kernel
theorem dX12_layOne_0 : decode cX12_layOne 0 = .ok (.aload_n 0, 1) := by decide +kernel
theorem dX12_layOne_1 : decode cX12_layOne 1 = .ok (.aload_n 0, 1) := by decide +kernel
theorem dX12_layOne_2 : decode cX12_layOne 2 = .ok (.iload_n 1, 1) := by decide +kernel
theorem dX12_layOne_3 : decode cX12_layOne 3 = .ok (.invokevirtual 381, 3) := by decide +kernel
theorem dX12_layOne_6 : decode cX12_layOne 6 = .ok (.putfield 384, 3) := by decide +kernel
theorem dX12_layOne_9 : decode cX12_layOne 9 = .ok (.iconst 0, 1) := by decide +kernel
theorem dX12_layOne_10 : decode cX12_layOne 10 = .ok (.istore_n 2, 1) := by decide +kernel
theorem dX12_layTwo_11 : decode cX12_layTwo 11 = .ok (.iload_n 2, 1) := by decide +kernel
theorem dX12_layTwo_12 : decode cX12_layTwo 12 = .ok (.aload_n 0, 1) := by decide +kernel
theorem dX12_layTwo_13 : decode cX12_layTwo 13 = .ok (.getfield 390, 3) := by decide +kernel
theorem dX12_layTwo_16 : decode cX12_layTwo 16 = .ok (.if_icmp .ge 21, 3) := by decide +kernel
theorem dX12_layTwo_37 : decode cX12_layTwo 37 = .ok (.return_, 1) := by decide +kernel
theorem dX12_layTwo_19 : decode cX12_layTwo 19 = .ok (.aload_n 0, 1) := by decide +kernel
theorem dX12_layTwo_20 : decode cX12_layTwo 20 = .ok (.getfield 98, 3) := by decide +kernel
theorem dX12_layTwo_23 : decode cX12_layTwo 23 = .ok (.iload_n 2, 1) := by decide +kernel
theorem dX12_layTwo_24 : decode cX12_layTwo 24 = .ok (.aload_n 0, 1) := by decide +kernel
theorem dX12_layTwo_25 : decode cX12_layTwo 25 = .ok (.iload_n 1, 1) := by decide +kernel
theorem dX12_layTwo_26 : decode cX12_layTwo 26 = .ok (.iload_n 2, 1) := by decide +kernel
theorem dX12_layTwo_27 : decode cX12_layTwo 27 = .ok (.invokevirtual 387, 3) := by decide +kernel
theorem dX12_layTwo_30 : decode cX12_layTwo 30 = .ok (.iastore, 1) := by decide +kernel
theorem dX12_layTwo_31 : decode cX12_layTwo 31 = .ok (.iinc 2 1, 3) := by decide +kernel
theorem dX12_layTwo_34 : decode cX12_layTwo 34 = .ok (.goto (-23), 3) := by decide +kernel
theorem dX12_layTwo_0 : decode cX12_layTwo 0 = .ok (.aload_n 0, 1) := by decide +kernel
theorem dX12_layTwo_1 : decode cX12_layTwo 1 = .ok (.aload_n 0, 1) := by decide +kernel
theorem dX12_layTwo_2 : decode cX12_layTwo 2 = .ok (.iload_n 1, 1) := by decide +kernel
theorem dX12_layTwo_3 : decode cX12_layTwo 3 = .ok (.invokevirtual 381, 3) := by decide +kernel
theorem dX12_layTwo_6 : decode cX12_layTwo 6 = .ok (.putfield 390, 3) := by decide +kernel
theorem dX12_layTwo_9 : decode cX12_layTwo 9 = .ok (.iconst 0, 1) := by decide +kernel
theorem dX12_layTwo_10 : decode cX12_layTwo 10 = .ok (.istore_n 2, 1) := by decide +kernel
theorem fl_b {cy : Nat → ClassId} {ad : List Nat} {w : va_W} {r fi : Nat} {lo hi : Int} (hw : fx_wo (gsM, TM, cy, fun _ => True) ad w) (ha : ad[0]? = some r) (ht : tsM[fi]? = some (.inl (lo, hi))) : lo ≤ vi w 0 fi ∧ vi w 0 fi ≤ hi := by
  obtain ⟨vs, h1, -, h3, -⟩ := tm_obj hw ha TM0
  obtain ⟨v, v1, x, rfl, x1, x2⟩ := h3 fi _ ht
  rw [vi_f h1 v1]
  exact ⟨x1, x2⟩
theorem el_b {cy : Nat → ClassId} {ad : List Nat} {w : va_W} {r fi g n j : Nat} {lo hi : Int} (hw : fx_wo (gsM, TM, cy, fun _ => True) ad w) (ha : ad[0]? = some r) (hf : tsM[fi]? = some (.inr (.inr (g + 1)))) (hg : g < 10000) (hT : TM[g]? = some (.inr (0, n, [.inl (lo, hi)]))) (hj : j < n) : lo ≤ vi w g j ∧ vi w g j ≤ hi := by
  obtain ⟨vs, h1, -, h3, -⟩ := tm_obj hw ha TM0
  obtain ⟨v, v1, k, b, v2, v3, rfl⟩ := h3 fi _ hf
  have hk : k = g := by
    rcases v3 with ⟨_, v3⟩ | ⟨v3, _⟩
    · exact tm_gs v3
    · omega
  subst hk
  obtain ⟨x, g1, ⟨f, rfl⟩, g3, -⟩ := tm_arr hw v2 hT
  obtain ⟨y, y1, y2, y3⟩ := g3 j (.inl (lo, hi)) hj (by rw [show j % ([(.inl (lo, hi) : fx_T)]).length = 0 from Nat.mod_one j]; rfl)
  cases y1
  rw [vi_a g1]
  exact ⟨y2, y3⟩
def lenW (ws : va_W) (s : Int) : Int := if s = -1 then vi ws 26 12 else vi ws 13 (Int.toNat (5 * vi ws 0 34 + s))
def wrdW (ws : va_W) (s k : Int) : Int := if s = -1 then vi ws 26 (Int.toNat (0 + k)) else vi ws 14 (Int.toNat (8 * (5 * vi ws 0 34 + s) + k))
theorem wrd_sm {cy : Nat → ClassId} {ad : List Nat} {md : List (Nat × Nat)} {w w' : va_W} (hw : fx_wo (gsM, TM, cy, fun _ => True) ad w) (hw' : fx_wo (gsM, TM, cy, fun _ => True) ad w') (hs : fx_sm (gsM, TM, cy, fun _ => True) md w w') (hm : (12, 34) ∉ md ∧ (1000, 26) ∉ md ∧ (1000, 14) ∉ md ∧ (1000, 13) ∉ md) (s k : Int) : wrdW w' s k = wrdW w s k ∧ lenW w' s = lenW w s := by
  obtain ⟨m1, m2, m3, m4⟩ := hm
  unfold wrdW lenW
  rw [sm_f hw hw' hs m1, sm_a hw hw' hs TMa_26 m2, sm_a hw hw' hs TMa_14 m3, sm_a hw hw' hs TMa_13 m4, sm_a hw hw' hs TMa_26 m2]
  exact ⟨rfl, rfl⟩

set_option maxRecDepth 100000 in
set_option maxHeartbeats 4000000 in
theorem h_isSlip {l : Launch} {E : (Nat → Prop) → State → Prop} {ad : List Nat} {D : va_G} {cy : Nat → ClassId} (h : fx_env E D classes (tys cy) nestW) (r : Nat) (v : Int) (hr0 : ad[0]? = some r) (hv : rg v) : hM l yX12_isSlip cX12_isSlip 2 (some .boolean) ({ frames := 1, cells := 0, slots := 0, locals := 22 }) E ad D cy (fun av ws => av = [.ref r, zv v] ∧ True) (fun _ ws rv ws1 => ws = ws1 ∧ rv = some (zv (if 0 ≤ v ∧ v ≤ vi ws 5 (Int.toNat (vi ws 0 34)) - 1 then 1 else 0))) := by
  refine hM_of h (by decide) ?_
  intro av ws p e s m below meth c hwo hnd hpre hlocks hr C
  obtain ⟨rfl, hpre⟩ := hpre
  refine ⟨Nat.le_of_ble_eq_true rfl, ?_⟩
  simp only [rg] at hv
  refine hr_pick (lv' := [(0, .ref r), (1, zv v)]) [0, 1] rfl ?_
  refine hr_iln C 1 dX12_isSlip_0 rfl rfl rfl ?_
  refine hr_ic C dX12_isSlip_1 rfl ?_
  refine hr_aln C 0 dX12_isSlip_2 rfl rfl rfl ?_
  refine hr_gA (g := 5) C hr0 TM0 rfl (by decide) fl_X12_27 dX12_isSlip_3 rfl (fun a1 ha2 => ?_)
  refine hr_aln C 0 dX12_isSlip_6 rfl rfl rfl ?_
  refine hr_gI (lo := 0) (hi := 1) C hr0 TM0 rfl fl_X12_274 dX12_isSlip_7 rfl (fun b3 b4 => ?_)
  refine hr_ald C ha2 TMa_5 (by omega) (by omega) (by decide) dX12_isSlip_10 rfl (fun b5 b6 => ?_)
  have b5 := gp1 b5
  simp only [rg] at b6
  refine hr_ic C dX12_isSlip_11 rfl ?_
  refine hr_sub C dX12_isSlip_12 rfl ?_
  refine hr_cS (As := [zv (v), zv (0), zv ((vi ws 5 (Int.toNat (vi ws 0 34))) - 1)]) (rest := []) C (h_isIn h (v) (0) ((vi ws 5 (Int.toNat (vi ws 0 34))) - 1) ⟨by omega, by omega⟩ ⟨by omega, by omega⟩ ⟨by omega, by omega⟩) ⟨by decide, by decide⟩ iS_X12_isIn g_X12_359 dX12_isSlip_13 rfl rfl (Nat.le_of_ble_eq_true rfl) rfl ⟨rfl, trivial⟩ (fun w7 rv o8 q9 => ?_)
  obtain ⟨rfl, rfl⟩ := q9
  obtain ⟨t10, et11⟩ : ∃ t, t = (if 0 ≤ v ∧ v ≤ (vi ws 5 (Int.toNat (vi ws 0 34))) - 1 then 1 else 0 : Int) := ⟨_, rfl⟩
  rw [← et11]
  have e12 : (t10 = 1 ∧ (0 ≤ v ∧ v ≤ (vi ws 5 (Int.toNat (vi ws 0 34))) - 1)) ∨ (t10 = 0 ∧ ¬ (0 ≤ v ∧ v ≤ (vi ws 5 (Int.toNat (vi ws 0 34))) - 1)) := by rw [et11]; split <;> simp_all
  clear et11
  refine hr_norm (st' := [zv (t10)]) rfl ?_
  exact hr_zret C hlocks hr (by omega) dX12_isSlip_16 ⟨rfl, by congr 2; split <;> omega⟩
set_option maxRecDepth 100000 in
set_option maxHeartbeats 4000000 in
theorem h_longOf {l : Launch} {E : (Nat → Prop) → State → Prop} {ad : List Nat} {D : va_G} {cy : Nat → ClassId} (h : fx_env E D classes (tys cy) nestW) (r : Nat) (v : Int) (hr0 : ad[0]? = some r) (hv : -1 ≤ v ∧ v ≤ 4) : hM l yX12_longOf cX12_longOf 2 (some .int) ({ frames := 0, cells := 0, slots := 0, locals := 0 }) E ad D cy (fun av ws => av = [.ref r, zv v] ∧ True) (fun _ ws rv ws1 => ws = ws1 ∧ rv = some (zv (lenW ws v)) ∧ 0 ≤ lenW ws v ∧ lenW ws v ≤ 12 ∧ (0 ≤ v → lenW ws v ≤ 8)) := by
  refine hM_of h (by decide) ?_
  intro av ws p e s m below meth c hwo hnd hpre hlocks hr C
  obtain ⟨rfl, hpre⟩ := hpre
  refine ⟨Nat.le_of_ble_eq_true rfl, ?_⟩
  refine hr_pick (lv' := [(0, .ref r), (1, zv v)]) [0, 1] rfl ?_
  refine hr_iln C 1 dX12_longOf_0 rfl rfl rfl ?_
  refine hr_ic C dX12_longOf_1 rfl ?_
  refine hr_cmp C 15 dX12_longOf_2 (by decide) ⟨by omega, by omega⟩ ⟨by omega, by omega⟩ rfl (fun c1 => ?_) (fun c1 => ?_)
  · have c1 : ¬ (v : Int) = (-1) := c1
    refine hr_aln C 0 dX12_longOf_15 rfl rfl rfl ?_
    refine hr_gA (g := 13) C hr0 TM0 rfl (by decide) fl_X12_51 dX12_longOf_16 rfl (fun a2 ha3 => ?_)
    refine hr_ic C dX12_longOf_19 rfl ?_
    refine hr_aln C 0 dX12_longOf_20 rfl rfl rfl ?_
    refine hr_gI (lo := 0) (hi := 1) C hr0 TM0 rfl fl_X12_274 dX12_longOf_21 rfl (fun b4 b5 => ?_)
    refine hr_mul C dX12_longOf_24 rfl ?_
    refine hr_iln C 1 dX12_longOf_25 rfl rfl rfl ?_
    refine hr_add C dX12_longOf_26 rfl ?_
    refine hr_ald C ha3 TMa_13 (by omega) (by omega) (by decide) dX12_longOf_27 rfl (fun b6 b7 => ?_)
    have b6 := gp1 b6
    simp only [rg] at b7
    have e1 : lenW ws v = vi ws 13 (Int.toNat ((5 * (vi ws 0 34)) + v)) := by unfold lenW; rw [if_neg (by omega)]
    exact hr_iret C hlocks hr dX12_longOf_28 ⟨rfl, by rw [e1], by omega, by omega, by omega⟩
  · have c1 : (v : Int) = (-1) := c1
    refine hr_aln C 0 dX12_longOf_5 rfl rfl rfl ?_
    refine hr_gA (g := 26) C hr0 TM0 rfl (by decide) fl_X12_92 dX12_longOf_6 rfl (fun a8 ha9 => ?_)
    refine hr_bi C dX12_longOf_9 (by decide +kernel) rfl ?_
    refine hr_ald C ha9 TMa_26 (by omega) (by omega) (by decide) dX12_longOf_11 rfl (fun b10 b11 => ?_)
    have b10 := b10 (0) (12) (by decide +kernel)
    have q12 : vi ws 26 (Int.toNat (12)) = vi ws 26 12 := by rfl
    rw [q12] at b10 b11 ⊢
    simp only [rg] at b11
    refine hr_goto C 28 dX12_longOf_12 (by decide) ?_
    have e1 : lenW ws v = vi ws 26 12 := by unfold lenW; rw [if_pos (by omega)]
    exact hr_iret C hlocks hr dX12_longOf_28 ⟨rfl, by rw [e1], by omega, by omega, by omega⟩
theorem pat12 {j : Nat} (h : j < 12) : ([.inl (0, 8), .inl (0, 8), .inl (0, 8), .inl (0, 8), .inl (0, 8), .inl (0, 8), .inl (0, 8), .inl (0, 8), .inl (0, 8), .inl (0, 8), .inl (0, 8), .inl (0, 8), .inl (0, 12), .inl (-2147483648, 2147483647), .inl (0, 999)] : List fx_T)[j % ([.inl (0, 8), .inl (0, 8), .inl (0, 8), .inl (0, 8), .inl (0, 8), .inl (0, 8), .inl (0, 8), .inl (0, 8), .inl (0, 8), .inl (0, 8), .inl (0, 8), .inl (0, 8), .inl (0, 12), .inl (-2147483648, 2147483647), .inl (0, 999)] : List fx_T).length]? = some (.inl (0, 8)) := by
  have e : j % ([.inl (0, 8), .inl (0, 8), .inl (0, 8), .inl (0, 8), .inl (0, 8), .inl (0, 8), .inl (0, 8), .inl (0, 8), .inl (0, 8), .inl (0, 8), .inl (0, 8), .inl (0, 8), .inl (0, 12), .inl (-2147483648, 2147483647), .inl (0, 999)] : List fx_T).length = j := Nat.mod_eq_of_lt (show j < 15 by omega)
  rw [e]
  match j, h with
  | 0, _ => rfl
  | 1, _ => rfl
  | 2, _ => rfl
  | 3, _ => rfl
  | 4, _ => rfl
  | 5, _ => rfl
  | 6, _ => rfl
  | 7, _ => rfl
  | 8, _ => rfl
  | 9, _ => rfl
  | 10, _ => rfl
  | 11, _ => rfl
  | k + 12, h => omega
set_option maxRecDepth 100000 in
set_option maxHeartbeats 4000000 in
theorem h_wordOf {l : Launch} {E : (Nat → Prop) → State → Prop} {ad : List Nat} {D : va_G} {cy : Nat → ClassId} (h : fx_env E D classes (tys cy) nestW) (r : Nat) (v k : Int) (hr0 : ad[0]? = some r) (hv : -1 ≤ v ∧ v ≤ 4) (hk : 0 ≤ k ∧ k ≤ 11) (hk2 : 0 ≤ v → k ≤ 7) : hM l yX12_wordOf cX12_wordOf 3 (some .int) ({ frames := 0, cells := 0, slots := 0, locals := 0 }) E ad D cy (fun av ws => av = [.ref r, zv v, zv k] ∧ True) (fun _ ws rv ws1 => ws = ws1 ∧ rv = some (zv (wrdW ws v k)) ∧ 0 ≤ wrdW ws v k ∧ wrdW ws v k ≤ 8) := by
  refine hM_of h (by decide) ?_
  intro av ws p e s m below meth c hwo hnd hpre hlocks hr C
  obtain ⟨rfl, hpre⟩ := hpre
  refine ⟨Nat.le_of_ble_eq_true rfl, ?_⟩
  refine hr_pick (lv' := [(0, .ref r), (1, zv v), (2, zv k)]) [0, 1, 2] rfl ?_
  refine hr_iln C 1 dX12_wordOf_0 rfl rfl rfl ?_
  refine hr_ic C dX12_wordOf_1 rfl ?_
  refine hr_cmp C 16 dX12_wordOf_2 (by decide) ⟨by omega, by omega⟩ ⟨by omega, by omega⟩ rfl (fun c1 => ?_) (fun c1 => ?_)
  · have c1 : ¬ (v : Int) = (-1) := c1
    refine hr_aln C 0 dX12_wordOf_16 rfl rfl rfl ?_
    refine hr_gA (g := 14) C hr0 TM0 rfl (by decide) fl_X12_54 dX12_wordOf_17 rfl (fun a2 ha3 => ?_)
    refine hr_bi C dX12_wordOf_20 (by decide +kernel) rfl ?_
    refine hr_ic C dX12_wordOf_22 rfl ?_
    refine hr_aln C 0 dX12_wordOf_23 rfl rfl rfl ?_
    refine hr_gI (lo := 0) (hi := 1) C hr0 TM0 rfl fl_X12_274 dX12_wordOf_24 rfl (fun b4 b5 => ?_)
    refine hr_mul C dX12_wordOf_27 rfl ?_
    refine hr_iln C 1 dX12_wordOf_28 rfl rfl rfl ?_
    refine hr_add C dX12_wordOf_29 rfl ?_
    refine hr_mul C dX12_wordOf_30 rfl ?_
    refine hr_iln C 2 dX12_wordOf_31 rfl rfl rfl ?_
    refine hr_add C dX12_wordOf_32 rfl ?_
    refine hr_ald C ha3 TMa_14 (by omega) (by omega) (by decide) dX12_wordOf_33 rfl (fun b6 b7 => ?_)
    have b6 := gp1 b6
    simp only [rg] at b7
    have e1 : wrdW ws v k = vi ws 14 (Int.toNat ((8 * ((5 * (vi ws 0 34)) + v)) + k)) := by unfold wrdW; rw [if_neg (by omega)]
    exact hr_iret C hlocks hr dX12_wordOf_34 ⟨rfl, by rw [e1], by omega, by omega⟩
  · have c1 : (v : Int) = (-1) := c1
    refine hr_aln C 0 dX12_wordOf_5 rfl rfl rfl ?_
    refine hr_gA (g := 26) C hr0 TM0 rfl (by decide) fl_X12_92 dX12_wordOf_6 rfl (fun a8 ha9 => ?_)
    refine hr_ic C dX12_wordOf_9 rfl ?_
    refine hr_iln C 2 dX12_wordOf_10 rfl rfl rfl ?_
    refine hr_add C dX12_wordOf_11 rfl ?_
    refine hr_ald C ha9 TMa_26 (by omega) (by omega) (by decide) dX12_wordOf_12 rfl (fun b10 b11 => ?_)
    simp only [rg] at b11
    refine hr_goto C 34 dX12_wordOf_13 (by decide) ?_
    have e1 : wrdW ws v k = vi ws 26 (Int.toNat (0 + k)) := by unfold wrdW; rw [if_pos (by omega)]
    have b9 := b10 0 8 (pat12 (by omega))
    exact hr_iret C hlocks hr dX12_wordOf_34 ⟨rfl, by rw [e1], by omega, by omega⟩
set_option maxRecDepth 100000 in
set_option maxHeartbeats 4000000 in
theorem h_layOne {l : Launch} {E : (Nat → Prop) → State → Prop} {ad : List Nat} {D : va_G} {cy : Nat → ClassId} (h : fx_env E D classes (tys cy) nestW) (r : Nat) (v : Int) (hr0 : ad[0]? = some r) (hv : -1 ≤ v ∧ v ≤ 4) : hM l yX12_layOne cX12_layOne 3 none ({ frames := 1, cells := 0, slots := 0, locals := 22 }) E ad D cy (fun av ws => av = [.ref r, zv v] ∧ True) (fun _ ws rv ws1 => fx_sm (gsM, TM, cy, fun _ => True) [(12, 45), (1000, 27)] ws ws1 ∧ rv = none ∧ vi ws1 0 45 = lenW ws v ∧ 0 ≤ lenW ws v ∧ lenW ws v ≤ 12 ∧ (0 ≤ v → lenW ws v ≤ 8) ∧ ∀ j : Nat, (j : Int) < lenW ws v → vi ws1 27 j = wrdW ws v j ∧ 0 ≤ wrdW ws v j) := by
  refine hM_of h (by decide) ?_
  intro av ws p e s m below meth c hwo hnd hpre hlocks hr C
  obtain ⟨rfl, hpre⟩ := hpre
  refine ⟨Nat.le_of_ble_eq_true rfl, ?_⟩
  refine hr_pick (lv' := [(0, .ref r), (1, zv v)]) [0, 1] rfl ?_
  have loop : ∀ (q : Nat) (k : Int) (w : va_W), (12 - k).toNat < q → fx_wo (gsM, TM, cy, fun _ => True) ad w → 0 ≤ k → k ≤ lenW ws v → 0 ≤ lenW ws v → lenW ws v ≤ 12 → (0 ≤ v → lenW ws v ≤ 8) → fx_sm (gsM, TM, cy, fun _ => True) [(12, 45), (1000, 27)] ws w → vi w 0 45 = lenW ws v → (∀ j : Nat, (j : Int) < k → vi w 27 j = wrdW ws v j ∧ 0 ≤ wrdW ws v j) → HW l E ad D cy (va_A ws s.heap.size) s.heap p e ({ frames := 1, cells := 0, slots := 0, locals := 22 }) s m ([.ref r, zv v]).toArray below meth c (MQ below (hQ ad D cy (fun _ ws rv ws1 => fx_sm (gsM, TM, cy, fun _ => True) [(12, 45), (1000, 27)] ws ws1 ∧ rv = none ∧ vi ws1 0 45 = lenW ws v ∧ 0 ≤ lenW ws v ∧ lenW ws v ≤ 12 ∧ (0 ≤ v → lenW ws v ≤ 8) ∧ ∀ j : Nat, (j : Int) < lenW ws v → vi ws1 27 j = wrdW ws v j ∧ 0 ≤ wrdW ws v j) ([.ref r, zv v]) ws s.heap.size) ([.ref r, zv v]).toArray s 0 0 (va_A ws s.heap.size)) cX12_layOne 3 yX12_layOne.cls 11 [(0, .ref r), (1, zv v), (2, zv k)] [] w := by
    intro q
    induction q with
    | zero => intro k w hq; omega
    | succ q ih =>
      intro k w hq how h1 h2 g1 g2 g3 sm hl hj
      refine hr_iln C 2 dX12_layOne_11 rfl rfl rfl ?_
      refine hr_aln C 0 dX12_layOne_12 rfl rfl rfl ?_
      refine hr_gI (lo := 0) (hi := 12) C hr0 TM0 rfl fl_X12_384 dX12_layOne_13 rfl (fun b1 b2 => ?_)
      refine hr_cmp C 37 dX12_layOne_16 (by decide) ⟨by omega, by omega⟩ ⟨by omega, by omega⟩ rfl (fun c3 => ?_) (fun c3 => ?_)
      · have c3 : (vi w 0 45 : Int) ≤ k := c3
        exact hr_vret C hlocks hr dX12_layOne_37 ⟨sm, rfl, hl, g1, g2, g3, fun j hj2 => hj j (by omega)⟩
      · have c3 : (k : Int) < vi w 0 45 := c3
        refine hr_aln C 0 dX12_layOne_19 rfl rfl rfl ?_
        refine hr_gA (g := 27) C hr0 TM0 rfl (by decide) fl_X12_95 dX12_layOne_20 rfl (fun a4 ha5 => ?_)
        refine hr_iln C 2 dX12_layOne_23 rfl rfl rfl ?_
        refine hr_aln C 0 dX12_layOne_24 rfl rfl rfl ?_
        refine hr_iln C 1 dX12_layOne_25 rfl rfl rfl ?_
        refine hr_iln C 2 dX12_layOne_26 rfl rfl rfl ?_
        refine hr_cV (As := [zv (v), zv (k)]) (rest := [zv (k), .ref a4]) C (h_wordOf h r v k hr0 hv ⟨by omega, by omega⟩ (fun q => by have := g3 q; omega)) ⟨by decide, by decide⟩ iV_X12_wordOf g_X12_387 TM0 hr0 dX12_layOne_27 rfl rfl (Nat.le_of_ble_eq_true rfl) rfl ⟨rfl, trivial⟩ (fun w6 rv o7 q8 => ?_)
        obtain ⟨rfl, rfl, x1, x2⟩ := q8
        have e1 := (wrd_sm hwo how sm (by decide) v k).1
        rw [e1] at x1 x2
        refine hr_norm (st' := [zv (wrdW ws v k), zv (k), .ref a4]) (by rw [e1]; rfl) ?_
        refine hr_ast C ha5 TMa_27 (by omega) (by omega) (by decide) ⟨by omega, by omega⟩ (hp1 (by omega) (by omega)) dX12_layOne_30 rfl (fun w9 o10 s11 e12 => ?_)
        refine hr_inc (lv' := [(2, zv (k + 1)), (0, .ref r), (1, zv (v))]) C 2 dX12_layOne_31 rfl (by decide) rfl rfl ?_
        refine hr_goto C 11 dX12_layOne_34 (by decide) ?_
        have k0 : vi w9 0 45 = lenW ws v := by rw [e12, if_neg (by omega)]; exact hl
        refine hr_pick (lv' := [(0, .ref r), (1, zv (v)), (2, zv (k + 1))]) [1, 2, 0] rfl ?_
        exact ih _ _ (by omega) o10 (by omega) (by omega) g1 g2 g3 (fx_sm_tr sm s11 (by decide)) k0 (fun j hj2 => by
          rw [e12]
          by_cases ej : j = Int.toNat k
          · have ek : (j : Int) = k := by omega
            rw [if_pos ⟨rfl, ej⟩, ek]
            exact ⟨rfl, x1⟩
          · rw [if_neg (fun q => ej q.2)]
            exact hj j (by omega))
  refine hr_aln C 0 dX12_layOne_0 rfl rfl rfl ?_
  refine hr_aln C 0 dX12_layOne_1 rfl rfl rfl ?_
  refine hr_iln C 1 dX12_layOne_2 rfl rfl rfl ?_
  refine hr_cV (As := [zv (v)]) (rest := [.ref r]) C (h_longOf h r v hr0 hv) ⟨by decide, by decide⟩ iV_X12_longOf g_X12_381 TM0 hr0 dX12_layOne_3 rfl rfl (Nat.le_of_ble_eq_true rfl) rfl ⟨rfl, trivial⟩ (fun w1 rv o2 q3 => ?_)
  obtain ⟨rfl, rfl, g1, g2, g3⟩ := q3
  refine hr_norm (st' := [zv (lenW ws v), .ref r]) rfl ?_
  refine hr_pI (lo := 0) (hi := 12) C hr0 TM0 rfl ⟨by decide, by decide⟩ pl_X12_384 dX12_layOne_6 (by omega) (by omega) rfl (fun w4 o5 s6 e7 => ?_)
  refine hr_ic C dX12_layOne_9 rfl ?_
  refine hr_isn (lv' := [(2, zv (0)), (0, .ref r), (1, zv (v))]) C dX12_layOne_10 rfl (by decide) rfl rfl ?_
  have k0 : vi w4 0 45 = lenW ws v := by rw [e7, if_pos ⟨rfl, rfl⟩]
  refine hr_pick (lv' := [(0, .ref r), (1, zv (v)), (2, zv (0))]) [1, 2, 0] rfl ?_
  exact loop _ 0 _ (Nat.lt_succ_self _) o5 (by omega) (by omega) g1 g2 g3 (fx_sm_tr fx_sm_refl s6 (by decide)) k0 (fun j hj => by omega)
set_option maxRecDepth 100000 in
set_option maxHeartbeats 4000000 in
theorem h_layTwo {l : Launch} {E : (Nat → Prop) → State → Prop} {ad : List Nat} {D : va_G} {cy : Nat → ClassId} (h : fx_env E D classes (tys cy) nestW) (r : Nat) (v : Int) (hr0 : ad[0]? = some r) (hv : -1 ≤ v ∧ v ≤ 4) : hM l yX12_layTwo cX12_layTwo 3 none ({ frames := 1, cells := 0, slots := 0, locals := 22 }) E ad D cy (fun av ws => av = [.ref r, zv v] ∧ True) (fun _ ws rv ws1 => fx_sm (gsM, TM, cy, fun _ => True) [(12, 46), (1000, 28)] ws ws1 ∧ rv = none ∧ vi ws1 0 46 = lenW ws v ∧ 0 ≤ lenW ws v ∧ lenW ws v ≤ 12 ∧ (0 ≤ v → lenW ws v ≤ 8) ∧ ∀ j : Nat, (j : Int) < lenW ws v → vi ws1 28 j = wrdW ws v j ∧ 0 ≤ wrdW ws v j) := by
  refine hM_of h (by decide) ?_
  intro av ws p e s m below meth c hwo hnd hpre hlocks hr C
  obtain ⟨rfl, hpre⟩ := hpre
  refine ⟨Nat.le_of_ble_eq_true rfl, ?_⟩
  refine hr_pick (lv' := [(0, .ref r), (1, zv v)]) [0, 1] rfl ?_
  have loop : ∀ (q : Nat) (k : Int) (w : va_W), (12 - k).toNat < q → fx_wo (gsM, TM, cy, fun _ => True) ad w → 0 ≤ k → k ≤ lenW ws v → 0 ≤ lenW ws v → lenW ws v ≤ 12 → (0 ≤ v → lenW ws v ≤ 8) → fx_sm (gsM, TM, cy, fun _ => True) [(12, 46), (1000, 28)] ws w → vi w 0 46 = lenW ws v → (∀ j : Nat, (j : Int) < k → vi w 28 j = wrdW ws v j ∧ 0 ≤ wrdW ws v j) → HW l E ad D cy (va_A ws s.heap.size) s.heap p e ({ frames := 1, cells := 0, slots := 0, locals := 22 }) s m ([.ref r, zv v]).toArray below meth c (MQ below (hQ ad D cy (fun _ ws rv ws1 => fx_sm (gsM, TM, cy, fun _ => True) [(12, 46), (1000, 28)] ws ws1 ∧ rv = none ∧ vi ws1 0 46 = lenW ws v ∧ 0 ≤ lenW ws v ∧ lenW ws v ≤ 12 ∧ (0 ≤ v → lenW ws v ≤ 8) ∧ ∀ j : Nat, (j : Int) < lenW ws v → vi ws1 28 j = wrdW ws v j ∧ 0 ≤ wrdW ws v j) ([.ref r, zv v]) ws s.heap.size) ([.ref r, zv v]).toArray s 0 0 (va_A ws s.heap.size)) cX12_layTwo 3 yX12_layTwo.cls 11 [(0, .ref r), (1, zv v), (2, zv k)] [] w := by
    intro q
    induction q with
    | zero => intro k w hq; omega
    | succ q ih =>
      intro k w hq how h1 h2 g1 g2 g3 sm hl hj
      refine hr_iln C 2 dX12_layTwo_11 rfl rfl rfl ?_
      refine hr_aln C 0 dX12_layTwo_12 rfl rfl rfl ?_
      refine hr_gI (lo := 0) (hi := 12) C hr0 TM0 rfl fl_X12_390 dX12_layTwo_13 rfl (fun b1 b2 => ?_)
      refine hr_cmp C 37 dX12_layTwo_16 (by decide) ⟨by omega, by omega⟩ ⟨by omega, by omega⟩ rfl (fun c3 => ?_) (fun c3 => ?_)
      · have c3 : (vi w 0 46 : Int) ≤ k := c3
        exact hr_vret C hlocks hr dX12_layTwo_37 ⟨sm, rfl, hl, g1, g2, g3, fun j hj2 => hj j (by omega)⟩
      · have c3 : (k : Int) < vi w 0 46 := c3
        refine hr_aln C 0 dX12_layTwo_19 rfl rfl rfl ?_
        refine hr_gA (g := 28) C hr0 TM0 rfl (by decide) fl_X12_98 dX12_layTwo_20 rfl (fun a4 ha5 => ?_)
        refine hr_iln C 2 dX12_layTwo_23 rfl rfl rfl ?_
        refine hr_aln C 0 dX12_layTwo_24 rfl rfl rfl ?_
        refine hr_iln C 1 dX12_layTwo_25 rfl rfl rfl ?_
        refine hr_iln C 2 dX12_layTwo_26 rfl rfl rfl ?_
        refine hr_cV (As := [zv (v), zv (k)]) (rest := [zv (k), .ref a4]) C (h_wordOf h r v k hr0 hv ⟨by omega, by omega⟩ (fun q => by have := g3 q; omega)) ⟨by decide, by decide⟩ iV_X12_wordOf g_X12_387 TM0 hr0 dX12_layTwo_27 rfl rfl (Nat.le_of_ble_eq_true rfl) rfl ⟨rfl, trivial⟩ (fun w6 rv o7 q8 => ?_)
        obtain ⟨rfl, rfl, x1, x2⟩ := q8
        have e1 := (wrd_sm hwo how sm (by decide) v k).1
        rw [e1] at x1 x2
        refine hr_norm (st' := [zv (wrdW ws v k), zv (k), .ref a4]) (by rw [e1]; rfl) ?_
        refine hr_ast C ha5 TMa_28 (by omega) (by omega) (by decide) ⟨by omega, by omega⟩ (hp1 (by omega) (by omega)) dX12_layTwo_30 rfl (fun w9 o10 s11 e12 => ?_)
        refine hr_inc (lv' := [(2, zv (k + 1)), (0, .ref r), (1, zv (v))]) C 2 dX12_layTwo_31 rfl (by decide) rfl rfl ?_
        refine hr_goto C 11 dX12_layTwo_34 (by decide) ?_
        have k0 : vi w9 0 46 = lenW ws v := by rw [e12, if_neg (by omega)]; exact hl
        refine hr_pick (lv' := [(0, .ref r), (1, zv (v)), (2, zv (k + 1))]) [1, 2, 0] rfl ?_
        exact ih _ _ (by omega) o10 (by omega) (by omega) g1 g2 g3 (fx_sm_tr sm s11 (by decide)) k0 (fun j hj2 => by
          rw [e12]
          by_cases ej : j = Int.toNat k
          · have ek : (j : Int) = k := by omega
            rw [if_pos ⟨rfl, ej⟩, ek]
            exact ⟨rfl, x1⟩
          · rw [if_neg (fun q => ej q.2)]
            exact hj j (by omega))
  refine hr_aln C 0 dX12_layTwo_0 rfl rfl rfl ?_
  refine hr_aln C 0 dX12_layTwo_1 rfl rfl rfl ?_
  refine hr_iln C 1 dX12_layTwo_2 rfl rfl rfl ?_
  refine hr_cV (As := [zv (v)]) (rest := [.ref r]) C (h_longOf h r v hr0 hv) ⟨by decide, by decide⟩ iV_X12_longOf g_X12_381 TM0 hr0 dX12_layTwo_3 rfl rfl (Nat.le_of_ble_eq_true rfl) rfl ⟨rfl, trivial⟩ (fun w1 rv o2 q3 => ?_)
  obtain ⟨rfl, rfl, g1, g2, g3⟩ := q3
  refine hr_norm (st' := [zv (lenW ws v), .ref r]) rfl ?_
  refine hr_pI (lo := 0) (hi := 12) C hr0 TM0 rfl ⟨by decide, by decide⟩ pl_X12_390 dX12_layTwo_6 (by omega) (by omega) rfl (fun w4 o5 s6 e7 => ?_)
  refine hr_ic C dX12_layTwo_9 rfl ?_
  refine hr_isn (lv' := [(2, zv (0)), (0, .ref r), (1, zv (v))]) C dX12_layTwo_10 rfl (by decide) rfl rfl ?_
  have k0 : vi w4 0 46 = lenW ws v := by rw [e7, if_pos ⟨rfl, rfl⟩]
  refine hr_pick (lv' := [(0, .ref r), (1, zv (v)), (2, zv (0))]) [1, 2, 0] rfl ?_
  exact loop _ 0 _ (Nat.lt_succ_self _) o5 (by omega) (by omega) g1 g2 g3 (fx_sm_tr fx_sm_refl s6 (by decide)) k0 (fun j hj => by omega)
