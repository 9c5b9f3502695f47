theorem m_1639 : Cond.constant RX12 529 (100000) ∈ wsL_law := in_wsL_law_r69 _ (List.mem_of_getElem? (i := 7) rfl)
theorem pl_X12_526 : fx_pl wsL_law nestW classes RX12 (526, 12, 70, 0) := ⟨RX12, TX12, 74, tyX12, tyX12 70, rfl, by decide, inlX12, tyX12_ok, nmX12, rfl, tyX12_ok 70 (by decide), rfl, Or.inl m_1613⟩
theorem kc_X12_529 : fx_k4 wsL_law RX12 (529, 100000) := m_1639
theorem dX12_isIn_0 : decode cX12_isIn 0 = .ok (.iload_n 0, 1) := by decide +kernel
theorem dX12_isIn_1 : decode cX12_isIn 1 = .ok (.iload_n 1, 1) := by decide +kernel
theorem dX12_isIn_2 : decode cX12_isIn 2 = .ok (.if_icmp .lt 12, 3) := by decide +kernel
theorem dX12_isIn_14 : decode cX12_isIn 14 = .ok (.iconst 0, 1) := by decide +kernel
theorem dX12_isIn_15 : decode cX12_isIn 15 = .ok (.ireturn, 1) := by decide +kernel
theorem dX12_isIn_5 : decode cX12_isIn 5 = .ok (.iload_n 0, 1) := by decide +kernel
theorem dX12_isIn_6 : decode cX12_isIn 6 = .ok (.iload_n 2, 1) := by decide +kernel
theorem dX12_isIn_7 : decode cX12_isIn 7 = .ok (.if_icmp .gt 7, 3) := by decide +kernel
theorem dX12_isIn_10 : decode cX12_isIn 10 = .ok (.iconst 1, 1) := by decide +kernel
theorem dX12_isIn_11 : decode cX12_isIn 11 = .ok (.goto 4, 3) := by decide +kernel
theorem dX12_bitsOf_4 : decode cX12_bitsOf 4 = .ok (.iload_n 2, 1) := by decide +kernel
theorem dX12_bitsOf_5 : decode cX12_bitsOf 5 = .ok (.ifCond .eq 15, 3) := by decide +kernel
theorem dX12_bitsOf_20 : decode cX12_bitsOf 20 = .ok (.iload_n 1, 1) := by decide +kernel
theorem dX12_bitsOf_21 : decode cX12_bitsOf 21 = .ok (.ireturn, 1) := by decide +kernel
theorem dX12_bitsOf_8 : decode cX12_bitsOf 8 = .ok (.iinc 1 1, 3) := by decide +kernel
theorem dX12_bitsOf_11 : decode cX12_bitsOf 11 = .ok (.iload_n 2, 1) := by decide +kernel
theorem dX12_bitsOf_12 : decode cX12_bitsOf 12 = .ok (.iload_n 2, 1) := by decide +kernel
theorem dX12_bitsOf_13 : decode cX12_bitsOf 13 = .ok (.iconst 1, 1) := by decide +kernel
theorem dX12_bitsOf_14 : decode cX12_bitsOf 14 = .ok (.isub, 1) := by decide +kernel
theorem dX12_bitsOf_15 : decode cX12_bitsOf 15 = .ok (.iand, 1) := by decide +kernel
theorem dX12_bitsOf_16 : decode cX12_bitsOf 16 = .ok (.istore_n 2, 1) := by decide +kernel
theorem dX12_bitsOf_17 : decode cX12_bitsOf 17 = .ok (.goto (-13), 3) := by decide +kernel
theorem dX12_bitsOf_0 : decode cX12_bitsOf 0 = .ok (.iconst 0, 1) := by decide +kernel
theorem dX12_bitsOf_1 : decode cX12_bitsOf 1 = .ok (.istore_n 1, 1) := by decide +kernel
theorem dX12_bitsOf_2 : decode cX12_bitsOf 2 = .ok (.iload_n 0, 1) := by decide +kernel
theorem dX12_bitsOf_3 : decode cX12_bitsOf 3 = .ok (.istore_n 2, 1) := by decide +kernel
theorem dX12_divisor_13 : decode cX12_divisor 13 = .ok (.iload_n 3, 1) := by decide +kernel
theorem dX12_divisor_14 : decode cX12_divisor 14 = .ok (.ifCond .le 16, 3) := by decide +kernel
theorem dX12_divisor_30 : decode cX12_divisor 30 = .ok (.iload_n 2, 1) := by decide +kernel
theorem dX12_divisor_31 : decode cX12_divisor 31 = .ok (.ireturn, 1) := by decide +kernel
theorem dX12_divisor_17 : decode cX12_divisor 17 = .ok (.iload_n 2, 1) := by decide +kernel
theorem dX12_divisor_18 : decode cX12_divisor 18 = .ok (.iload_n 3, 1) := by decide +kernel
theorem dX12_divisor_19 : decode cX12_divisor 19 = .ok (.irem, 1) := by decide +kernel
theorem dX12_divisor_20 : decode cX12_divisor 20 = .ok (.istore 4, 2) := by decide +kernel
theorem dX12_divisor_22 : decode cX12_divisor 22 = .ok (.iload_n 3, 1) := by decide +kernel
theorem dX12_divisor_23 : decode cX12_divisor 23 = .ok (.istore_n 2, 1) := by decide +kernel
theorem dX12_divisor_24 : decode cX12_divisor 24 = .ok (.iload 4, 2) := by decide +kernel
theorem dX12_divisor_26 : decode cX12_divisor 26 = .ok (.istore_n 3, 1) := by decide +kernel
theorem dX12_divisor_27 : decode cX12_divisor 27 = .ok (.goto (-14), 3) := by decide +kernel
theorem dX12_divisor_0 : decode cX12_divisor 0 = .ok (.iload_n 0, 1) := by decide +kernel
theorem dX12_divisor_1 : decode cX12_divisor 1 = .ok (.ifCond .ge 8, 3) := by decide +kernel
theorem dX12_divisor_9 : decode cX12_divisor 9 = .ok (.iload_n 0, 1) := by decide +kernel
theorem dX12_divisor_10 : decode cX12_divisor 10 = .ok (.istore_n 2, 1) := by decide +kernel
theorem dX12_divisor_11 : decode cX12_divisor 11 = .ok (.iload_n 1, 1) := by decide +kernel
theorem dX12_divisor_12 : decode cX12_divisor 12 = .ok (.istore_n 3, 1) := by decide +kernel
theorem dX12_divisor_4 : decode cX12_divisor 4 = .ok (.iload_n 0, 1) := by decide +kernel
theorem dX12_divisor_5 : decode cX12_divisor 5 = .ok (.ineg, 1) := by decide +kernel
theorem dX12_divisor_6 : decode cX12_divisor 6 = .ok (.goto 4, 3) := by decide +kernel
theorem dX12_later_0 : decode cX12_later 0 = .ok (.iload_n 1, 1) := by decide +kernel
theorem dX12_later_1 : decode cX12_later 1 = .ok (.iconst 0, 1) := by decide +kernel
theorem dX12_later_2 : decode cX12_later 2 = .ok (.sipush 1000, 3) := by decide +kernel
theorem dX12_later_5 : decode cX12_later 5 = .ok (.invokestatic 359, 3) := by decide +kernel
theorem dX12_later_8 : decode cX12_later 8 = .ok (.ifCond .eq 15, 3) := by decide +kernel
theorem dX12_later_23 : decode cX12_later 23 = .ok (.iconst (-1), 1) := by decide +kernel
theorem dX12_later_24 : decode cX12_later 24 = .ok (.ireturn, 1) := by decide +kernel
theorem dX12_later_11 : decode cX12_later 11 = .ok (.aload_n 0, 1) := by decide +kernel
theorem dX12_later_12 : decode cX12_later 12 = .ok (.getfield 526, 3) := by decide +kernel
theorem dX12_later_15 : decode cX12_later 15 = .ok (.iload_n 1, 1) := by decide +kernel
theorem dX12_later_16 : decode cX12_later 16 = .ok (.iadd, 1) := by decide +kernel
theorem dX12_later_17 : decode cX12_later 17 = .ok (.ldc_w 529, 3) := by decide +kernel
theorem dX12_later_20 : decode cX12_later 20 = .ok (.if_icmp .le 5, 3) := by decide +kernel
theorem dX12_later_25 : decode cX12_later 25 = .ok (.aload_n 0, 1) := by decide +kernel
theorem dX12_later_26 : decode cX12_later 26 = .ok (.dup, 1) := by decide +kernel
theorem dX12_later_27 : decode cX12_later 27 = .ok (.getfield 526, 3) := by decide +kernel
theorem dX12_later_30 : decode cX12_later 30 = .ok (.iload_n 1, 1) := by decide +kernel
theorem dX12_later_31 : decode cX12_later 31 = .ok (.iadd, 1) := by decide +kernel
theorem dX12_later_32 : decode cX12_later 32 = .ok (.putfield 526, 3) := by decide +kernel
theorem dX12_later_35 : decode cX12_later 35 = .ok (.aload_n 0, 1) := by decide +kernel
theorem dX12_later_36 : decode cX12_later 36 = .ok (.getfield 526, 3) := by decide +kernel
theorem dX12_later_39 : decode cX12_later 39 = .ok (.ireturn, 1) := by decide +kernel
set_option maxRecDepth 100000 in
set_option maxHeartbeats 4000000 in
theorem h_isIn {l : Launch} {E : (Nat → Prop) → State → Prop} {ad : List Nat} {D : va_G} {cy : Nat → ClassId} (h : fx_env E D classes (tys cy) nestW) (v a b : Int) (hv : rg v) (ha : rg a) (hb : rg b) : hM l yX12_isIn cX12_isIn 3 (some .boolean) ({ frames := 0, cells := 0, slots := 0, locals := 0 }) E ad D cy (fun av ws => av = [zv v, zv a, zv b] ∧ True) (fun _ ws rv ws1 => ws = ws1 ∧ rv = some (zv (if a ≤ v ∧ v ≤ b then 1 else 0))) := by
  refine hM_of h (by decide) ?_
  intro av ws p e s m below meth c hwo hnd hpre hlocks hr C
  obtain ⟨rfl, hpre⟩ := hpre
  refine ⟨Nat.le_of_ble_eq_true rfl, ?_⟩
  simp only [rg] at hv ha hb
  refine hr_pick (lv' := [(0, zv v), (1, zv a), (2, zv b)]) [0, 1, 2] rfl ?_
  refine hr_iln C 0 dX12_isIn_0 rfl rfl rfl ?_
  refine hr_iln C 1 dX12_isIn_1 rfl rfl rfl ?_
  refine hr_cmp C 14 dX12_isIn_2 (by decide) ⟨by omega, by omega⟩ ⟨by omega, by omega⟩ rfl (fun c1 => ?_) (fun c1 => ?_)
  · have c1 : (v : Int) < a := c1
    refine hr_ic C dX12_isIn_14 rfl ?_
    exact hr_zret C hlocks hr (by first | exact Or.inl rfl | exact Or.inr rfl) dX12_isIn_15 ⟨rfl, by first | rw [if_pos ⟨by omega, by omega⟩] | rw [if_neg (by omega)]⟩
  · have c1 : (a : Int) ≤ v := c1
    refine hr_iln C 0 dX12_isIn_5 rfl rfl rfl ?_
    refine hr_iln C 2 dX12_isIn_6 rfl rfl rfl ?_
    refine hr_cmp C 14 dX12_isIn_7 (by decide) ⟨by omega, by omega⟩ ⟨by omega, by omega⟩ rfl (fun c2 => ?_) (fun c2 => ?_)
    · have c2 : (b : Int) < v := c2
      refine hr_ic C dX12_isIn_14 rfl ?_
      exact hr_zret C hlocks hr (by first | exact Or.inl rfl | exact Or.inr rfl) dX12_isIn_15 ⟨rfl, by first | rw [if_pos ⟨by omega, by omega⟩] | rw [if_neg (by omega)]⟩
    · have c2 : (v : Int) ≤ b := c2
      refine hr_ic C dX12_isIn_10 rfl ?_
      refine hr_goto C 15 dX12_isIn_11 (by decide) ?_
      exact hr_zret C hlocks hr (by first | exact Or.inl rfl | exact Or.inr rfl) dX12_isIn_15 ⟨rfl, by first | rw [if_pos ⟨by omega, by omega⟩] | rw [if_neg (by omega)]⟩
set_option maxRecDepth 100000 in
set_option maxHeartbeats 4000000 in
theorem h_bitsOf {l : Launch} {E : (Nat → Prop) → State → Prop} {ad : List Nat} {D : va_G} {cy : Nat → ClassId} (h : fx_env E D classes (tys cy) nestW) (k0 : Int) (hk0 : 0 ≤ k0) (hk1 : k0 ≤ 2147483647) : hM l yX12_bitsOf cX12_bitsOf 3 (some .int) ({ frames := 0, cells := 0, slots := 0, locals := 0 }) E ad D cy (fun av ws => av = [zv k0] ∧ True) (fun _ ws rv ws1 => ws = ws1 ∧ ∃ z, rv = some (zv z)) := by
  refine hM_of h (by decide) ?_
  intro av ws p e s m below meth c hwo hnd hpre hlocks hr C
  obtain ⟨rfl, hpre⟩ := hpre
  refine ⟨Nat.le_of_ble_eq_true rfl, ?_⟩
  refine hr_pick (lv' := [(0, zv k0)]) [0] rfl ?_
  have loop : ∀ (q : Nat) (k n : Int), k.toNat < q → 0 ≤ k → k ≤ 2147483647 → HW l E ad D cy (va_A ws s.heap.size) s.heap p e ({ frames := 0, cells := 0, slots := 0, locals := 0 }) s m ([zv k0]).toArray below meth c (MQ below (hQ ad D cy (fun _ ws rv ws1 => ws = ws1 ∧ ∃ z, rv = some (zv z)) ([zv k0]) ws s.heap.size) ([zv k0]).toArray s 0 0 (va_A ws s.heap.size)) cX12_bitsOf 3 yX12_bitsOf.cls 4 [(2, zv k), (1, zv n)] [] ws := by
    intro q
    induction q with
    | zero => intro k n hq; omega
    | succ q ih =>
      intro k n hq hk0 hk1
      refine hr_iln C 0 dX12_bitsOf_4 rfl rfl rfl ?_
      refine hr_if C 20 dX12_bitsOf_5 (by decide) ⟨by omega, by omega⟩ rfl (fun c1 => ?_) (fun c1 => ?_)
      · have c1 : (k : Int) = 0 := c1
        refine hr_iln C 1 dX12_bitsOf_20 rfl rfl rfl ?_
        exact hr_iret C hlocks hr dX12_bitsOf_21 ⟨rfl, _, rfl⟩
      · have c1 : ¬ (k : Int) = 0 := c1
        refine hr_inc (lv' := [(1, zv (n + 1)), (2, zv (k))]) C 1 dX12_bitsOf_8 rfl (by decide) rfl rfl ?_
        refine hr_iln C 1 dX12_bitsOf_11 rfl rfl rfl ?_
        refine hr_iln C 1 dX12_bitsOf_12 rfl rfl rfl ?_
        refine hr_ic C dX12_bitsOf_13 rfl ?_
        refine hr_sub C dX12_bitsOf_14 rfl ?_
        refine hr_and C dX12_bitsOf_15 (by omega) (by omega) (by omega) (by omega) rfl ?_
        have hle : Int.toNat (k) &&& Int.toNat (k - 1) ≤ Int.toNat (k - 1) := Nat.and_le_right
        obtain ⟨y2, ey2⟩ : ∃ y : Int, y = ((Int.toNat (k) &&& Int.toNat (k - 1) : Nat) : Int) := ⟨_, rfl⟩
        rw [← ey2]
        refine hr_isn (lv' := [(2, zv (y2)), (1, zv (n + 1))]) C dX12_bitsOf_16 rfl (by decide) rfl rfl ?_
        refine hr_goto C 4 dX12_bitsOf_17 (by decide) ?_
        refine hr_pick (lv' := [(2, zv (y2)), (1, zv (n + 1))]) [0, 1] rfl ?_
        exact ih _ _ (by omega) (by omega) (by omega)
  refine hr_ic C dX12_bitsOf_0 rfl ?_
  refine hr_isn (lv' := [(1, zv (0)), (0, zv (k0))]) C dX12_bitsOf_1 rfl (by decide) rfl rfl ?_
  refine hr_iln C 1 dX12_bitsOf_2 rfl rfl rfl ?_
  refine hr_isn (lv' := [(2, zv (k0)), (1, zv (0)), (0, zv (k0))]) C dX12_bitsOf_3 rfl (by decide) rfl rfl ?_
  refine hr_pick (lv' := [(2, zv (k0)), (1, zv (0))]) [0, 1] rfl ?_
  exact loop _ k0 0 (Nat.lt_succ_self _) hk0 hk1
set_option maxRecDepth 100000 in
set_option maxHeartbeats 4000000 in
theorem h_divisor {l : Launch} {E : (Nat → Prop) → State → Prop} {ad : List Nat} {D : va_G} {cy : Nat → ClassId} (h : fx_env E D classes (tys cy) nestW) (a b : Int) (ha : rg a) (hb : rg b) (hab : 1 ≤ b ∨ 1 ≤ a) : hM l yX12_divisor cX12_divisor 5 (some .int) ({ frames := 0, cells := 0, slots := 0, locals := 0 }) E ad D cy (fun av ws => av = [zv a, zv b] ∧ True) (fun _ ws rv ws1 => ws = ws1 ∧ ∃ z, rv = some (zv z) ∧ 1 ≤ z ∧ z ≤ 2147483647) := by
  refine hM_of h (by decide) ?_
  intro av ws p e s m below meth c hwo hnd hpre hlocks hr C
  obtain ⟨rfl, hpre⟩ := hpre
  refine ⟨Nat.le_of_ble_eq_true rfl, ?_⟩
  simp only [rg] at ha hb
  refine hr_pick (lv' := [(0, zv a), (1, zv b)]) [0, 1] rfl ?_
  have loop : ∀ (q : Nat) (x y : Int), y.toNat < q → rg x → rg y → (1 ≤ y ∨ 1 ≤ x) → HW l E ad D cy (va_A ws s.heap.size) s.heap p e ({ frames := 0, cells := 0, slots := 0, locals := 0 }) s m ([zv a, zv b]).toArray below meth c (MQ below (hQ ad D cy (fun _ ws rv ws1 => ws = ws1 ∧ ∃ z, rv = some (zv z) ∧ 1 ≤ z ∧ z ≤ 2147483647) ([zv a, zv b]) ws s.heap.size) ([zv a, zv b]).toArray s 0 0 (va_A ws s.heap.size)) cX12_divisor 5 yX12_divisor.cls 13 [(3, zv y), (2, zv x)] [] ws := by
    intro q
    induction q with
    | zero => intro x y hq; omega
    | succ q ih =>
      intro x y hq hx hy hxy
      simp only [rg] at hx hy
      refine hr_iln C 0 dX12_divisor_13 rfl rfl rfl ?_
      refine hr_if C 30 dX12_divisor_14 (by decide) ⟨by omega, by omega⟩ rfl (fun c1 => ?_) (fun c1 => ?_)
      · have c1 : (y : Int) ≤ 0 := c1
        refine hr_iln C 1 dX12_divisor_30 rfl rfl rfl ?_
        exact hr_iret C hlocks hr dX12_divisor_31 ⟨rfl, _, rfl, by omega, by omega⟩
      · have c1 : (0 : Int) < y := c1
        refine hr_iln C 1 dX12_divisor_17 rfl rfl rfl ?_
        refine hr_iln C 0 dX12_divisor_18 rfl rfl rfl ?_
        refine hr_remg C dX12_divisor_19 ⟨by omega, by omega⟩ (by omega) (by omega) rfl (fun r2 hr2 gr2 => ?_)
        refine hr_is (lv' := [(4, zv (r2)), (3, zv (y)), (2, zv (x))]) C dX12_divisor_20 (by decide) rfl rfl ?_
        refine hr_iln C 1 dX12_divisor_22 rfl rfl rfl ?_
        refine hr_isn (lv' := [(2, zv (y)), (4, zv (r2)), (3, zv (y))]) C dX12_divisor_23 rfl (by decide) rfl rfl ?_
        refine hr_il C 1 dX12_divisor_24 rfl rfl ?_
        refine hr_isn (lv' := [(3, zv (r2)), (2, zv (y)), (4, zv (r2))]) C dX12_divisor_26 rfl (by decide) rfl rfl ?_
        refine hr_goto C 13 dX12_divisor_27 (by decide) ?_
        refine hr_pick (lv' := [(3, zv (r2)), (2, zv (y))]) [0, 1] rfl ?_
        exact ih _ _ (by omega) ⟨by omega, by omega⟩ ⟨by omega, by omega⟩ (by omega)
  refine hr_iln C 0 dX12_divisor_0 rfl rfl rfl ?_
  refine hr_if C 9 dX12_divisor_1 (by decide) ⟨by omega, by omega⟩ rfl (fun c1 => ?_) (fun c1 => ?_)
  · have c1 : (0 : Int) ≤ a := c1
    refine hr_iln C 0 dX12_divisor_9 rfl rfl rfl ?_
    refine hr_isn (lv' := [(2, zv (a)), (0, zv (a)), (1, zv (b))]) C dX12_divisor_10 rfl (by decide) rfl rfl ?_
    refine hr_iln C 2 dX12_divisor_11 rfl rfl rfl ?_
    refine hr_isn (lv' := [(3, zv (b)), (2, zv (a)), (0, zv (a)), (1, zv (b))]) C dX12_divisor_12 rfl (by decide) rfl rfl ?_
    refine hr_pick (lv' := [(3, zv (b)), (2, zv (a))]) [0, 1] rfl ?_
    exact loop _ a b (Nat.lt_succ_self _) ⟨by omega, by omega⟩ ⟨by omega, by omega⟩ (by omega)
  · have c1 : (a : Int) < 0 := c1
    refine hr_iln C 0 dX12_divisor_4 rfl rfl rfl ?_
    refine hr_neg C dX12_divisor_5 rfl ?_
    refine hr_goto C 10 dX12_divisor_6 (by decide) ?_
    refine hr_isn (lv' := [(2, zv (-a)), (0, zv (a)), (1, zv (b))]) C dX12_divisor_10 rfl (by decide) rfl rfl ?_
    refine hr_iln C 2 dX12_divisor_11 rfl rfl rfl ?_
    refine hr_isn (lv' := [(3, zv (b)), (2, zv (-a)), (0, zv (a)), (1, zv (b))]) C dX12_divisor_12 rfl (by decide) rfl rfl ?_
    refine hr_pick (lv' := [(3, zv (b)), (2, zv (-a))]) [0, 1] rfl ?_
    obtain ⟨x1, hx1, ex1, en1⟩ := zv_norm (-a)
    rw [ex1]
    exact loop _ x1 b (Nat.lt_succ_self _) hx1 ⟨by omega, by omega⟩ (by omega)
set_option maxRecDepth 100000 in
set_option maxHeartbeats 4000000 in
theorem h_later {l : Launch} {E : (Nat → Prop) → State → Prop} {ad : List Nat} {D : va_G} {cy : Nat → ClassId} (h : fx_env E D classes (tys cy) nestW) (a : Nat) (b : Int) (ha : ad[0]? = some a) (hb : rg b) : hM l yX12_later cX12_later 2 (some .int) ({ frames := 1, cells := 0, slots := 0, locals := 22 }) E ad D cy (fun av ws => av = [.ref a, zv b] ∧ True) (fun _ ws rv ws1 => fx_sm (gsM, TM, cy, fun _ => True) [(12, 70)] ws ws1 ∧ ((0 ≤ b ∧ b ≤ 1000 ∧ vi ws 0 70 + b ≤ 100000 ∧ vi ws1 0 70 = vi ws 0 70 + b ∧ rv = some (zv (vi ws 0 70 + b))) ∨ (¬ (0 ≤ b ∧ b ≤ 1000 ∧ vi ws 0 70 + b ≤ 100000) ∧ vi ws1 0 70 = vi ws 0 70 ∧ rv = some (zv (-1))))) := by
  refine hM_of h (by decide) ?_
  intro av ws p e s m below meth c hwo hnd hpre hlocks hr C
  obtain ⟨rfl, hpre⟩ := hpre
  refine ⟨Nat.le_of_ble_eq_true rfl, ?_⟩
  simp only [rg] at hb
  refine hr_pick (lv' := [(0, .ref a), (1, zv b)]) [0, 1] rfl ?_
  refine hr_iln C 1 dX12_later_0 rfl rfl rfl ?_
  refine hr_ic C dX12_later_1 rfl ?_
  refine hr_si C dX12_later_2 (by decide +kernel) rfl ?_
  refine hr_cS (As := [zv (b), zv (0), zv (1000)]) (rest := []) C (h_isIn h b 0 1000 ⟨by omega, by omega⟩ ⟨by omega, by omega⟩ ⟨by omega, by omega⟩) ⟨by decide, by decide⟩ iS_X12_isIn g_X12_359 dX12_later_5 rfl rfl (Nat.le_of_ble_eq_true rfl) rfl ⟨rfl, trivial⟩ (fun w1 rv o1 hq => ?_)
  obtain ⟨rfl, rfl⟩ := hq
  obtain ⟨t1, et1⟩ : ∃ t, t = (if 0 ≤ b ∧ b ≤ 1000 then 1 else 0 : Int) := ⟨_, rfl⟩
  rw [← et1]
  have et2 : (t1 = 1 ∧ 0 ≤ b ∧ b ≤ 1000) ∨ (t1 = 0 ∧ ¬ (0 ≤ b ∧ b ≤ 1000)) := by rw [et1]; split <;> simp_all
  show HW l E ad D cy (va_A ws s.heap.size) s.heap p e ({ frames := 1, cells := 0, slots := 0, locals := 22 }) s m ([.ref a, zv b]).toArray below meth c (MQ below (hQ ad D cy (fun _ ws rv ws1 => fx_sm (gsM, TM, cy, fun _ => True) [(12, 70)] ws ws1 ∧ ((0 ≤ b ∧ b ≤ 1000 ∧ vi ws 0 70 + b ≤ 100000 ∧ vi ws1 0 70 = vi ws 0 70 + b ∧ rv = some (zv (vi ws 0 70 + b))) ∨ (¬ (0 ≤ b ∧ b ≤ 1000 ∧ vi ws 0 70 + b ≤ 100000) ∧ vi ws1 0 70 = vi ws 0 70 ∧ rv = some (zv (-1))))) ([.ref a, zv b]) ws s.heap.size) ([.ref a, zv b]).toArray s 0 0 (va_A ws s.heap.size)) cX12_later 2 yX12_later.cls 8 _ [zv t1] ws
  refine hr_if C 23 dX12_later_8 (by decide) ⟨by omega, by omega⟩ rfl (fun c1 => ?_) (fun c1 => ?_)
  · have c1 : (t1 : Int) = 0 := c1
    refine hr_ic C dX12_later_23 rfl ?_
    exact hr_iret C hlocks hr dX12_later_24 ⟨fx_sm_refl, Or.inr ⟨by omega, rfl, rfl⟩⟩
  · have c1 : ¬ (t1 : Int) = 0 := c1
    refine hr_aln C 0 dX12_later_11 rfl rfl rfl ?_
    refine hr_gI (lo := 0) (hi := 100000) C ha TM0 rfl fl_X12_526 dX12_later_12 rfl (fun b2 b3 => ?_)
    refine hr_iln C 1 dX12_later_15 rfl rfl rfl ?_
    refine hr_add C dX12_later_16 rfl ?_
    refine hr_ldcw C kc_X12_529 dX12_later_17 rfl ?_
    refine hr_cmp C 25 dX12_later_20 (by decide) ⟨by omega, by omega⟩ ⟨by omega, by omega⟩ rfl (fun c4 => ?_) (fun c4 => ?_)
    · have c4 : ((vi ws 0 70) + b : Int) ≤ 100000 := c4
      refine hr_aln C 0 dX12_later_25 rfl rfl rfl ?_
      refine hr_dup C dX12_later_26 rfl rfl ?_
      refine hr_gI (lo := 0) (hi := 100000) C ha TM0 rfl fl_X12_526 dX12_later_27 rfl (fun b5 b6 => ?_)
      refine hr_iln C 1 dX12_later_30 rfl rfl rfl ?_
      refine hr_add C dX12_later_31 rfl ?_
      refine hr_pI (lo := 0) (hi := 100000) C ha TM0 rfl ⟨by decide, by decide⟩ pl_X12_526 dX12_later_32 (by omega) (by omega) rfl (fun w7 o8 s9 e10 => ?_)
      refine hr_aln C 0 dX12_later_35 rfl rfl rfl ?_
      refine hr_gI (lo := 0) (hi := 100000) C ha TM0 rfl fl_X12_526 dX12_later_36 rfl (fun b11 b12 => ?_)
      have q13 : vi w7 0 70 = (vi ws 0 70) + b := by rw [e10, if_pos ⟨rfl, rfl⟩]
      rw [q13] at b11 b12 ⊢
      exact hr_iret C hlocks hr dX12_later_39 ⟨s9, Or.inl ⟨by omega, by omega, by omega, by rw [e10, if_pos ⟨rfl, rfl⟩], rfl⟩⟩
    · have c4 : (100000 : Int) < (vi ws 0 70) + b := c4
      refine hr_ic C dX12_later_23 rfl ?_
      exact hr_iret C hlocks hr dX12_later_24 ⟨fx_sm_refl, Or.inr ⟨by omega, rfl, rfl⟩⟩
