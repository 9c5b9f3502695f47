theorem dX12_layNeeds_23 : decode cX12_layNeeds 23 = .ok (.iload_n 3, 1) := by decide +kernel
theorem dX12_layNeeds_24 : decode cX12_layNeeds 24 = .ok (.ifCond .lt 16, 3) := by decide +kernel
theorem dX12_layNeeds_40 : decode cX12_layNeeds 40 = .ok (.iinc 2 (-1), 3) := by decide +kernel
theorem dX12_layNeeds_43 : decode cX12_layNeeds 43 = .ok (.goto (-29), 3) := by decide +kernel
theorem dX12_layNeeds_27 : decode cX12_layNeeds 27 = .ok (.aload_n 0, 1) := by decide +kernel
theorem dX12_layNeeds_28 : decode cX12_layNeeds 28 = .ok (.iload_n 1, 1) := by decide +kernel
theorem dX12_layNeeds_29 : decode cX12_layNeeds 29 = .ok (.iload_n 2, 1) := by decide +kernel
theorem dX12_layNeeds_30 : decode cX12_layNeeds 30 = .ok (.iload_n 3, 1) := by decide +kernel
theorem dX12_layNeeds_31 : decode cX12_layNeeds 31 = .ok (.invokevirtual 453, 3) := by decide +kernel
theorem dX12_layNeeds_34 : decode cX12_layNeeds 34 = .ok (.iinc 3 (-1), 3) := by decide +kernel
theorem dX12_layNeeds_37 : decode cX12_layNeeds 37 = .ok (.goto (-14), 3) := by decide +kernel
theorem dX12_layNeeds_14 : decode cX12_layNeeds 14 = .ok (.iload_n 2, 1) := by decide +kernel
theorem dX12_layNeeds_15 : decode cX12_layNeeds 15 = .ok (.ifCond .lt 31, 3) := by decide +kernel
theorem dX12_layNeeds_46 : decode cX12_layNeeds 46 = .ok (.iinc 1 (-1), 3) := by decide +kernel
theorem dX12_layNeeds_49 : decode cX12_layNeeds 49 = .ok (.goto (-44), 3) := by decide +kernel
theorem dX12_layNeeds_18 : decode cX12_layNeeds 18 = .ok (.aload_n 0, 1) := by decide +kernel
theorem dX12_layNeeds_19 : decode cX12_layNeeds 19 = .ok (.getfield 443, 3) := by decide +kernel
theorem dX12_layNeeds_22 : decode cX12_layNeeds 22 = .ok (.istore_n 3, 1) := by decide +kernel
theorem dX12_layNeeds_5 : decode cX12_layNeeds 5 = .ok (.iload_n 1, 1) := by decide +kernel
theorem dX12_layNeeds_6 : decode cX12_layNeeds 6 = .ok (.ifCond .lt 46, 3) := by decide +kernel
theorem dX12_layNeeds_52 : decode cX12_layNeeds 52 = .ok (.return_, 1) := by decide +kernel
theorem dX12_layNeeds_9 : decode cX12_layNeeds 9 = .ok (.aload_n 0, 1) := by decide +kernel
theorem dX12_layNeeds_10 : decode cX12_layNeeds 10 = .ok (.getfield 390, 3) := by decide +kernel
theorem dX12_layNeeds_13 : decode cX12_layNeeds 13 = .ok (.istore_n 2, 1) := by decide +kernel
theorem dX12_layNeeds_0 : decode cX12_layNeeds 0 = .ok (.aload_n 0, 1) := by decide +kernel
theorem dX12_layNeeds_1 : decode cX12_layNeeds 1 = .ok (.getfield 384, 3) := by decide +kernel
theorem dX12_layNeeds_4 : decode cX12_layNeeds 4 = .ok (.istore_n 1, 1) := by decide +kernel
theorem AL_top {L1 L2 L3 W : Int} {o t h : Nat → Int} {N : Nat → Int} : AL L1 L2 L3 W o t h N (plc L1 L2 L3) := by
  intro a b c hT hlt
  obtain ⟨r1, r2, r3, r4, r5, r6⟩ := hT
  unfold plc at hlt
  omega
theorem AL_mono {L1 L2 L3 W : Int} {o t h : Nat → Int} {N : Nat → Int} {p q : Int} (hpq : ∀ a b c, rgT L1 L2 L3 a b c → q < plc a b c → p < plc a b c) (h0 : AL L1 L2 L3 W o t h N p) : AL L1 L2 L3 W o t h N q := fun a b c hT hq => h0 a b c hT (hpq a b c hT hq)
theorem AL_row {L1 L2 L3 W : Int} {o t h : Nat → Int} {N : Nat → Int} {a b : Int} (hL : L1 ≤ 12 ∧ L2 ≤ 12 ∧ L3 ≤ 12) (h0 : AL L1 L2 L3 W o t h N (plc a b (-1))) : AL L1 L2 L3 W o t h N (plc a (b - 1) L3) := AL_mono (fun a' b' c' hT hq => by
  obtain ⟨r1, r2, r3, r4, r5, r6⟩ := hT
  unfold plc at hq ⊢
  omega) h0
theorem AL_slab {L1 L2 L3 W : Int} {o t h : Nat → Int} {N : Nat → Int} {a : Int} (hL : L1 ≤ 12 ∧ L2 ≤ 12 ∧ L3 ≤ 12) (h0 : AL L1 L2 L3 W o t h N (plc a (-1) L3)) : AL L1 L2 L3 W o t h N (plc (a - 1) L2 L3) := AL_mono (fun a' b' c' hT hq => by
  obtain ⟨r1, r2, r3, r4, r5, r6⟩ := hT
  unfold plc at hq ⊢
  omega) h0
theorem AL_all {L1 L2 L3 W : Int} {o t h : Nat → Int} {N : Nat → Int} (hL : L1 ≤ 12 ∧ L2 ≤ 12 ∧ L3 ≤ 12) (h0 : AL L1 L2 L3 W o t h N (plc (-1) L2 L3)) : AL L1 L2 L3 W o t h N (-1) := AL_mono (fun a' b' c' hT hq => by
  obtain ⟨r1, r2, r3, r4, r5, r6⟩ := hT
  unfold plc at hq ⊢
  omega) h0
theorem AL_congr {L1 L2 L3 W : Int} {o t h : Nat → Int} {N N' : Nat → Int} {p : Int} (e : ∀ x, N' x = N x) (h0 : AL L1 L2 L3 W o t h N p) : AL L1 L2 L3 W o t h N' p := by
  have : N' = N := funext e
  rw [this]; exact h0

set_option maxRecDepth 100000 in
set_option maxHeartbeats 4000000 in
theorem h_layNeeds {l : Launch} {E : (Nat → Prop) → State → Prop} {ad : List Nat} {D : va_G} {cy : Nat → ClassId} (h : fx_env E D classes (tys cy) nestW) (r : Nat) (L1 L2 L3 W : Int) (o t h0 : Nat → Int) (hr0 : ad[0]? = some r) (hL : L1 ≤ 12 ∧ L2 ≤ 12 ∧ L3 ≤ 12) (hL0 : 0 ≤ L1 ∧ 0 ≤ L2 ∧ 0 ≤ L3) (hW0 : 0 ≤ W) (hW : W ≤ 9) (ho : OWs L1 W o) (ht : OWs L2 W t) (hh0 : OWs L3 W h0) : hM l yX12_layNeeds cX12_layNeeds 4 none ({ frames := 3, cells := 0, slots := 0, locals := 77 }) E ad D cy (fun av ws => av = [.ref r] ∧ EN ws L1 L2 L3 W o t h0) (fun _ ws rv ws1 => fx_sm (gsM, TM, cy, fun _ => True) [(1000, 32), (1000, 33)] ws ws1 ∧ rv = none ∧ AL L1 L2 L3 W o t h0 (vi ws1 32) (-1)) := by
  refine hM_of h (by decide) ?_
  intro av ws p e s m below meth c hwo hnd hpre hlocks hr C
  obtain ⟨rfl, hpre⟩ := hpre
  refine ⟨Nat.le_of_ble_eq_true rfl, ?_⟩
  refine hr_pick (lv' := [(0, .ref r)]) [0] rfl ?_
  have hen := hpre
  have all : ∀ q : Nat, (∀ (a b c0 : Int) (w : va_W), (1000 * (a + 1) + 30 * (b + 1) + (c0 + 1)).toNat < q → 0 ≤ a → a ≤ L1 → 0 ≤ b → b ≤ L2 → -1 ≤ c0 → c0 ≤ L3 → fx_wo (gsM, TM, cy, fun _ => True) ad w → fx_sm (gsM, TM, cy, fun _ => True) [(1000, 32), (1000, 33)] ws w → EN w L1 L2 L3 W o t h0 → AL L1 L2 L3 W o t h0 (vi w 32) (plc a b c0) → HW l E ad D cy (va_A ws s.heap.size) s.heap p e ({ frames := 3, cells := 0, slots := 0, locals := 77 }) s m ([.ref r]).toArray below meth c (MQ below (hQ ad D cy (fun _ ws rv ws1 => fx_sm (gsM, TM, cy, fun _ => True) [(1000, 32), (1000, 33)] ws ws1 ∧ rv = none ∧ AL L1 L2 L3 W o t h0 (vi ws1 32) (-1)) ([.ref r]) ws s.heap.size) ([.ref r]).toArray s 0 0 (va_A ws s.heap.size)) cX12_layNeeds 4 yX12_layNeeds.cls 23 [(0, .ref r), (1, zv a), (2, zv b), (3, zv c0)] [] w) ∧ (∀ (a b : Int) (w : va_W), (1000 * (a + 1) + 30 * (b + 1) + 20).toNat < q → 0 ≤ a → a ≤ L1 → -1 ≤ b → b ≤ L2 → fx_wo (gsM, TM, cy, fun _ => True) ad w → fx_sm (gsM, TM, cy, fun _ => True) [(1000, 32), (1000, 33)] ws w → EN w L1 L2 L3 W o t h0 → AL L1 L2 L3 W o t h0 (vi w 32) (plc a b L3) → HW l E ad D cy (va_A ws s.heap.size) s.heap p e ({ frames := 3, cells := 0, slots := 0, locals := 77 }) s m ([.ref r]).toArray below meth c (MQ below (hQ ad D cy (fun _ ws rv ws1 => fx_sm (gsM, TM, cy, fun _ => True) [(1000, 32), (1000, 33)] ws ws1 ∧ rv = none ∧ AL L1 L2 L3 W o t h0 (vi ws1 32) (-1)) ([.ref r]) ws s.heap.size) ([.ref r]).toArray s 0 0 (va_A ws s.heap.size)) cX12_layNeeds 4 yX12_layNeeds.cls 14 [(0, .ref r), (1, zv a), (2, zv b)] [] w) ∧ (∀ (a : Int) (w : va_W), (1000 * (a + 1) + 999).toNat < q → -1 ≤ a → a ≤ L1 → fx_wo (gsM, TM, cy, fun _ => True) ad w → fx_sm (gsM, TM, cy, fun _ => True) [(1000, 32), (1000, 33)] ws w → EN w L1 L2 L3 W o t h0 → AL L1 L2 L3 W o t h0 (vi w 32) (plc a L2 L3) → HW l E ad D cy (va_A ws s.heap.size) s.heap p e ({ frames := 3, cells := 0, slots := 0, locals := 77 }) s m ([.ref r]).toArray below meth c (MQ below (hQ ad D cy (fun _ ws rv ws1 => fx_sm (gsM, TM, cy, fun _ => True) [(1000, 32), (1000, 33)] ws ws1 ∧ rv = none ∧ AL L1 L2 L3 W o t h0 (vi ws1 32) (-1)) ([.ref r]) ws s.heap.size) ([.ref r]).toArray s 0 0 (va_A ws s.heap.size)) cX12_layNeeds 4 yX12_layNeeds.cls 5 [(0, .ref r), (1, zv a)] [] w) := by
    intro q
    induction q with
    | zero => exact ⟨fun a b c0 w hq => by omega, fun a b w hq => by omega, fun a w hq => by omega⟩
    | succ q ih =>
      obtain ⟨i3, i2, i1⟩ := ih
      refine ⟨?_, ?_, ?_⟩
      · intro a b c0 w hq h1 h2 h3 h4 h5 h6 how sm hen2 hal
        refine hr_iln C 3 dX12_layNeeds_23 rfl rfl rfl ?_
        refine hr_if C 40 dX12_layNeeds_24 (by decide) ⟨by omega, by omega⟩ rfl (fun c1 => ?_) (fun c1 => ?_)
        · have c1 : (c0 : Int) < 0 := c1
          refine hr_inc (lv' := [(2, zv (b + (-1))), (0, .ref r), (1, zv (a)), (3, zv (c0))]) C 2 dX12_layNeeds_40 rfl (by decide) rfl rfl ?_
          refine hr_goto C 14 dX12_layNeeds_43 (by decide) ?_
          refine hr_pick (lv' := [(0, .ref r), (1, zv (a)), (2, zv (b + (-1)))]) [1, 2, 0] rfl ?_
          have e8 : c0 = -1 := by omega
          rw [e8] at hal
          exact i2 a (b + (-1)) w (by omega) h1 h2 (by omega) (by omega) how sm hen2 (AL_row hL hal)
        · have c1 : (0 : Int) ≤ c0 := c1
          refine hr_aln C 0 dX12_layNeeds_27 rfl rfl rfl ?_
          refine hr_iln C 1 dX12_layNeeds_28 rfl rfl rfl ?_
          refine hr_iln C 2 dX12_layNeeds_29 rfl rfl rfl ?_
          refine hr_iln C 3 dX12_layNeeds_30 rfl rfl rfl ?_
          refine hr_cV (As := [zv (a), zv (b), zv (c0)]) (rest := []) C (h_layNeed h r (a) (b) (c0) L1 L2 L3 W o t h0 hr0 hL hW0 hW ⟨by omega, by omega, by omega, by omega, by omega, by omega⟩ ho ht hh0) ⟨by decide, by decide⟩ iV_X12_layNeed g_X12_453 TM0 hr0 dX12_layNeeds_31 rfl rfl (Nat.le_of_ble_eq_true rfl) rfl ⟨rfl, hen2, hal⟩ (fun w2 rv o3 q4 => ?_)
          obtain ⟨s5, rfl, hal3⟩ := q4
          refine hr_inc (lv' := [(3, zv (c0 + (-1))), (0, .ref r), (1, zv (a)), (2, zv (b))]) C 3 dX12_layNeeds_34 rfl (by decide) rfl rfl ?_
          refine hr_goto C 23 dX12_layNeeds_37 (by decide) ?_
          refine hr_pick (lv' := [(0, .ref r), (1, zv (a)), (2, zv (b)), (3, zv (c0 + (-1)))]) [1, 2, 3, 0] rfl ?_
          have e9 : plc a b c0 - 1 = plc a b (c0 + (-1)) := by unfold plc; omega
          rw [e9] at hal3
          have sm2 := (fx_sm_tr sm s5 (by decide))
          exact i3 _ _ _ _ (by omega) h1 h2 h3 h4 (by omega) (by omega) o3 sm2 (en_sm hwo o3 sm2 (by decide) hen) hal3
      · intro a b w hq h1 h2 h3 h4 how sm hen2 hal
        obtain ⟨n1, n2, n3, n4, n5, n6, n7⟩ := id hen2
        refine hr_iln C 2 dX12_layNeeds_14 rfl rfl rfl ?_
        refine hr_if C 46 dX12_layNeeds_15 (by decide) ⟨by omega, by omega⟩ rfl (fun c1 => ?_) (fun c1 => ?_)
        · have c1 : (b : Int) < 0 := c1
          refine hr_inc (lv' := [(1, zv (a + (-1))), (0, .ref r), (2, zv (b))]) C 1 dX12_layNeeds_46 rfl (by decide) rfl rfl ?_
          refine hr_goto C 5 dX12_layNeeds_49 (by decide) ?_
          refine hr_pick (lv' := [(0, .ref r), (1, zv (a + (-1)))]) [1, 0] rfl ?_
          have e8 : b = -1 := by omega
          rw [e8] at hal
          exact i1 (a + (-1)) w (by omega) (by omega) (by omega) how sm hen2 (AL_slab hL hal)
        · have c1 : (0 : Int) ≤ b := c1
          refine hr_aln C 0 dX12_layNeeds_18 rfl rfl rfl ?_
          refine hr_gI (lo := 0) (hi := 12) C hr0 TM0 rfl fl_X12_443 dX12_layNeeds_19 rfl (fun b2 b3 => ?_)
          refine hr_isn (lv' := [(3, zv (vi w 0 47)), (0, .ref r), (1, zv (a)), (2, zv (b))]) C dX12_layNeeds_22 rfl (by decide) rfl rfl ?_
          rw [n3]
          refine hr_pick (lv' := [(0, .ref r), (1, zv (a)), (2, zv (b)), (3, zv (L3))]) [1, 2, 3, 0] rfl ?_
          exact i3 a b L3 w (by omega) h1 h2 (by omega) h4 (by omega) (by omega) how sm hen2 hal
      · intro a w hq h1 h2 how sm hen2 hal
        obtain ⟨n1, n2, n3, n4, n5, n6, n7⟩ := id hen2
        refine hr_iln C 1 dX12_layNeeds_5 rfl rfl rfl ?_
        refine hr_if C 52 dX12_layNeeds_6 (by decide) ⟨by omega, by omega⟩ rfl (fun c1 => ?_) (fun c1 => ?_)
        · have c1 : (a : Int) < 0 := c1
          have e8 : a = -1 := by omega
          rw [e8] at hal
          exact hr_vret C hlocks hr dX12_layNeeds_52 ⟨sm, rfl, AL_all hL hal⟩
        · have c1 : (0 : Int) ≤ a := c1
          refine hr_aln C 0 dX12_layNeeds_9 rfl rfl rfl ?_
          refine hr_gI (lo := 0) (hi := 12) C hr0 TM0 rfl fl_X12_390 dX12_layNeeds_10 rfl (fun b2 b3 => ?_)
          refine hr_isn (lv' := [(2, zv (vi w 0 46)), (0, .ref r), (1, zv (a))]) C dX12_layNeeds_13 rfl (by decide) rfl rfl ?_
          rw [n2]
          refine hr_pick (lv' := [(0, .ref r), (1, zv (a)), (2, zv (L2))]) [1, 2, 0] rfl ?_
          exact i2 a L2 w (by omega) (by omega) h2 (by omega) (by omega) how sm hen2 hal
  obtain ⟨n1, n2, n3, n4, n5, n6, n7⟩ := id hen
  refine hr_aln C 0 dX12_layNeeds_0 rfl rfl rfl ?_
  refine hr_gI (lo := 0) (hi := 12) C hr0 TM0 rfl fl_X12_384 dX12_layNeeds_1 rfl (fun b1 b2 => ?_)
  refine hr_isn (lv' := [(1, zv (vi ws 0 45)), (0, .ref r)]) C dX12_layNeeds_4 rfl (by decide) rfl rfl ?_
  rw [n1]
  refine hr_pick (lv' := [(0, .ref r), (1, zv (L1))]) [1, 0] rfl ?_
  exact (all _).2.2 L1 ws (Nat.lt_succ_self _) (by omega) (by omega) hwo fx_sm_refl hen AL_top
