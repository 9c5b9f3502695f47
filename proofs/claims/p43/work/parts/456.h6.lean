theorem dX12_showSource_37 : decode cX12_showSource 37 = .ok (.aload_n 0, 1) := by decide +kernel
theorem dX12_showSource_38 : decode cX12_showSource 38 = .ok (.iload 4, 2) := by decide +kernel
theorem dX12_showSource_40 : decode cX12_showSource 40 = .ok (.iload_n 2, 1) := by decide +kernel
theorem dX12_showSource_41 : decode cX12_showSource 41 = .ok (.iload_n 3, 1) := by decide +kernel
theorem dX12_showSource_42 : decode cX12_showSource 42 = .ok (.iload_n 1, 1) := by decide +kernel
theorem dX12_showSource_43 : decode cX12_showSource 43 = .ok (.bipush 13, 2) := by decide +kernel
theorem dX12_showSource_45 : decode cX12_showSource 45 = .ok (.irem, 1) := by decide +kernel
theorem dX12_showSource_46 : decode cX12_showSource 46 = .ok (.invokevirtual 449, 3) := by decide +kernel
theorem dX12_showSource_49 : decode cX12_showSource 49 = .ok (.iload_n 1, 1) := by decide +kernel
theorem dX12_showSource_50 : decode cX12_showSource 50 = .ok (.if_icmp .eq 31, 3) := by decide +kernel
theorem dX12_showSource_81 : decode cX12_showSource 81 = .ok (.iinc 4 1, 3) := by decide +kernel
theorem dX12_showSource_84 : decode cX12_showSource 84 = .ok (.goto (-47), 3) := by decide +kernel
theorem dX12_showSource_53 : decode cX12_showSource 53 = .ok (.aload_n 0, 1) := by decide +kernel
theorem dX12_showSource_54 : decode cX12_showSource 54 = .ok (.getfield 110, 3) := by decide +kernel
theorem dX12_showSource_57 : decode cX12_showSource 57 = .ok (.aload_n 0, 1) := by decide +kernel
theorem dX12_showSource_58 : decode cX12_showSource 58 = .ok (.iload 4, 2) := by decide +kernel
theorem dX12_showSource_60 : decode cX12_showSource 60 = .ok (.iload_n 2, 1) := by decide +kernel
theorem dX12_showSource_61 : decode cX12_showSource 61 = .ok (.iload_n 3, 1) := by decide +kernel
theorem dX12_showSource_62 : decode cX12_showSource 62 = .ok (.iload_n 1, 1) := by decide +kernel
theorem dX12_showSource_63 : decode cX12_showSource 63 = .ok (.bipush 13, 2) := by decide +kernel
theorem dX12_showSource_65 : decode cX12_showSource 65 = .ok (.irem, 1) := by decide +kernel
theorem dX12_showSource_66 : decode cX12_showSource 66 = .ok (.invokevirtual 449, 3) := by decide +kernel
theorem dX12_showSource_69 : decode cX12_showSource 69 = .ok (.iaload, 1) := by decide +kernel
theorem dX12_showSource_70 : decode cX12_showSource 70 = .ok (.aload_n 0, 1) := by decide +kernel
theorem dX12_showSource_71 : decode cX12_showSource 71 = .ok (.getfield 110, 3) := by decide +kernel
theorem dX12_showSource_74 : decode cX12_showSource 74 = .ok (.iload_n 1, 1) := by decide +kernel
theorem dX12_showSource_75 : decode cX12_showSource 75 = .ok (.iaload, 1) := by decide +kernel
theorem dX12_showSource_76 : decode cX12_showSource 76 = .ok (.iconst 1, 1) := by decide +kernel
theorem dX12_showSource_77 : decode cX12_showSource 77 = .ok (.isub, 1) := by decide +kernel
theorem dX12_showSource_78 : decode cX12_showSource 78 = .ok (.if_icmp .eq 9, 3) := by decide +kernel
theorem dX12_showSource_87 : decode cX12_showSource 87 = .ok (.aload_n 0, 1) := by decide +kernel
theorem dX12_showSource_88 : decode cX12_showSource 88 = .ok (.getfield 116, 3) := by decide +kernel
theorem dX12_showSource_91 : decode cX12_showSource 91 = .ok (.aload_n 0, 1) := by decide +kernel
theorem dX12_showSource_92 : decode cX12_showSource 92 = .ok (.getfield 375, 3) := by decide +kernel
theorem dX12_showSource_95 : decode cX12_showSource 95 = .ok (.iload 4, 2) := by decide +kernel
theorem dX12_showSource_97 : decode cX12_showSource 97 = .ok (.iastore, 1) := by decide +kernel
theorem dX12_showSource_98 : decode cX12_showSource 98 = .ok (.aload_n 0, 1) := by decide +kernel
theorem dX12_showSource_99 : decode cX12_showSource 99 = .ok (.dup, 1) := by decide +kernel
theorem dX12_showSource_100 : decode cX12_showSource 100 = .ok (.getfield 375, 3) := by decide +kernel
theorem dX12_showSource_103 : decode cX12_showSource 103 = .ok (.iconst 1, 1) := by decide +kernel
theorem dX12_showSource_104 : decode cX12_showSource 104 = .ok (.iadd, 1) := by decide +kernel
theorem dX12_showSource_105 : decode cX12_showSource 105 = .ok (.putfield 375, 3) := by decide +kernel
theorem dX12_showSource_108 : decode cX12_showSource 108 = .ok (.aload_n 0, 1) := by decide +kernel
theorem dX12_showSource_109 : decode cX12_showSource 109 = .ok (.iload 4, 2) := by decide +kernel
theorem dX12_showSource_111 : decode cX12_showSource 111 = .ok (.iload_n 2, 1) := by decide +kernel
theorem dX12_showSource_112 : decode cX12_showSource 112 = .ok (.iload_n 3, 1) := by decide +kernel
theorem dX12_showSource_113 : decode cX12_showSource 113 = .ok (.iload_n 1, 1) := by decide +kernel
theorem dX12_showSource_114 : decode cX12_showSource 114 = .ok (.bipush 13, 2) := by decide +kernel
theorem dX12_showSource_116 : decode cX12_showSource 116 = .ok (.irem, 1) := by decide +kernel
theorem dX12_showSource_117 : decode cX12_showSource 117 = .ok (.invokevirtual 449, 3) := by decide +kernel
theorem dX12_showSource_120 : decode cX12_showSource 120 = .ok (.istore_n 1, 1) := by decide +kernel
theorem dX12_showSource_121 : decode cX12_showSource 121 = .ok (.goto (-110), 3) := by decide +kernel
theorem dX12_showSource_11 : decode cX12_showSource 11 = .ok (.aload_n 0, 1) := by decide +kernel
theorem dX12_showSource_12 : decode cX12_showSource 12 = .ok (.getfield 110, 3) := by decide +kernel
theorem dX12_showSource_15 : decode cX12_showSource 15 = .ok (.iload_n 1, 1) := by decide +kernel
theorem dX12_showSource_16 : decode cX12_showSource 16 = .ok (.iaload, 1) := by decide +kernel
theorem dX12_showSource_17 : decode cX12_showSource 17 = .ok (.ifCond .le 107, 3) := by decide +kernel
theorem dX12_showSource_124 : decode cX12_showSource 124 = .ok (.aload_n 0, 1) := by decide +kernel
theorem dX12_showSource_125 : decode cX12_showSource 125 = .ok (.getfield 375, 3) := by decide +kernel
theorem dX12_showSource_128 : decode cX12_showSource 128 = .ok (.ireturn, 1) := by decide +kernel
theorem dX12_showSource_20 : decode cX12_showSource 20 = .ok (.iload_n 1, 1) := by decide +kernel
theorem dX12_showSource_21 : decode cX12_showSource 21 = .ok (.sipush 169, 3) := by decide +kernel
theorem dX12_showSource_24 : decode cX12_showSource 24 = .ok (.idiv, 1) := by decide +kernel
theorem dX12_showSource_25 : decode cX12_showSource 25 = .ok (.istore_n 2, 1) := by decide +kernel
theorem dX12_showSource_26 : decode cX12_showSource 26 = .ok (.iload_n 1, 1) := by decide +kernel
theorem dX12_showSource_27 : decode cX12_showSource 27 = .ok (.bipush 13, 2) := by decide +kernel
theorem dX12_showSource_29 : decode cX12_showSource 29 = .ok (.idiv, 1) := by decide +kernel
theorem dX12_showSource_30 : decode cX12_showSource 30 = .ok (.bipush 13, 2) := by decide +kernel
theorem dX12_showSource_32 : decode cX12_showSource 32 = .ok (.irem, 1) := by decide +kernel
theorem dX12_showSource_33 : decode cX12_showSource 33 = .ok (.istore_n 3, 1) := by decide +kernel
theorem dX12_showSource_34 : decode cX12_showSource 34 = .ok (.iconst 0, 1) := by decide +kernel
theorem dX12_showSource_35 : decode cX12_showSource 35 = .ok (.istore 4, 2) := by decide +kernel
theorem dX12_showSource_0 : decode cX12_showSource 0 = .ok (.aload_n 0, 1) := by decide +kernel
theorem dX12_showSource_1 : decode cX12_showSource 1 = .ok (.invokevirtual 457, 3) := by decide +kernel
theorem dX12_showSource_4 : decode cX12_showSource 4 = .ok (.iconst 0, 1) := by decide +kernel
theorem dX12_showSource_5 : decode cX12_showSource 5 = .ok (.iconst 0, 1) := by decide +kernel
theorem dX12_showSource_6 : decode cX12_showSource 6 = .ok (.iconst 0, 1) := by decide +kernel
theorem dX12_showSource_7 : decode cX12_showSource 7 = .ok (.invokestatic 446, 3) := by decide +kernel
theorem dX12_showSource_10 : decode cX12_showSource 10 = .ok (.istore_n 1, 1) := by decide +kernel
set_option maxRecDepth 100000 in
set_option maxHeartbeats 4000000 in
theorem h_showSource {l : Launch} {E : (Nat → Prop) → State → Prop} {ad : List Nat} {D : va_G} {cy : Nat → ClassId} (h : fx_env E D classes (tys cy) nestW) (r : Nat) (L1 L2 L3 W : Int) (o t h0 : Nat → Int) (hr0 : ad[0]? = some r) (hL : L1 ≤ 12 ∧ L2 ≤ 12 ∧ L3 ≤ 12) (hL0 : 0 ≤ L1 ∧ 0 ≤ L2 ∧ 0 ≤ L3) (hW0 : 0 ≤ W) (hW : W ≤ 9) (ho : OWs L1 W o) (ht : OWs L2 W t) (hh0 : OWs L3 W h0) : hM l yX12_showSource cX12_showSource 5 (some .int) ({ frames := 4, cells := 0, slots := 0, locals := 100 }) E ad D cy (fun av ws => av = [.ref r] ∧ EN ws L1 L2 L3 W o t h0 ∧ vi ws 0 55 = 0) (fun _ ws rv ws1 => fx_sm (gsM, TM, cy, fun _ => True) [(12, 55), (1000, 32), (1000, 33), (1000, 34)] ws ws1 ∧ ∃ z, rv = some (zv z) ∧ 0 ≤ z ∧ z ≤ 36) := by
  refine hM_of h (by decide) ?_
  intro av ws p e s m below meth c hwo hnd hpre hlocks hr C
  obtain ⟨rfl, hpre⟩ := hpre
  refine ⟨Nat.le_of_ble_eq_true rfl, ?_⟩
  refine hr_pick (lv' := [(0, .ref r)]) [0] rfl ?_
  obtain ⟨hen, hl0⟩ := hpre
  have outer : ∀ (q : Nat) (a b c0 : Int) (w : va_W), (L1 + L2 + L3 - a - b - c0).toNat < q → fx_wo (gsM, TM, cy, fun _ => True) ad w → fx_sm (gsM, TM, cy, fun _ => True) [(12, 55), (1000, 32), (1000, 33), (1000, 34)] ws w → EN w L1 L2 L3 W o t h0 → AL L1 L2 L3 W o t h0 (vi w 32) (-1) → rgT L1 L2 L3 a b c0 → 0 ≤ vi w 0 55 → vi w 0 55 ≤ a + b + c0 → HW l E ad D cy (va_A ws s.heap.size) s.heap p e ({ frames := 4, cells := 0, slots := 0, locals := 100 }) s m ([.ref r]).toArray below meth c (MQ below (hQ ad D cy (fun _ ws rv ws1 => fx_sm (gsM, TM, cy, fun _ => True) [(12, 55), (1000, 32), (1000, 33), (1000, 34)] ws ws1 ∧ ∃ z, rv = some (zv z) ∧ 0 ≤ z ∧ z ≤ 36) ([.ref r]) ws s.heap.size) ([.ref r]).toArray s 0 0 (va_A ws s.heap.size)) cX12_showSource 5 yX12_showSource.cls 11 [(0, .ref r), (1, zv (plc a b c0))] [] w := by
    intro q
    induction q with
    | zero => intro a b c0 w hq how sm hen2 hal hT; unfold rgT at hT; omega
    | succ q ih =>
      intro a b c0 w hq how sm hen2 hal hT hl1 hl2
      have hT2 := hT
      unfold rgT at hT2
      obtain ⟨P, hP⟩ : ∃ P, P = plc a b c0 := ⟨_, rfl⟩
      have hP2 : P = 169 * a + 13 * b + c0 := hP
      obtain ⟨p1, p2, p3⟩ := hal a b c0 hT (by rw [← hP]; omega)
      rw [← hP] at p1 p2 p3
      rw [← hP]
      have inner : 0 < vi w 32 (Int.toNat P) → ∀ (vs : Int), 0 ≤ vs → vs < W → ¬ sbp L1 L2 L3 o t h0 vs a b c0 = P → vi w 32 (Int.toNat (sbp L1 L2 L3 o t h0 vs a b c0)) = vi w 32 (Int.toNat P) - 1 → ∀ (n : Nat) (v : Int), (vs - v).toNat < n → 0 ≤ v → v ≤ vs → HW l E ad D cy (va_A ws s.heap.size) s.heap p e ({ frames := 4, cells := 0, slots := 0, locals := 100 }) s m ([.ref r]).toArray below meth c (MQ below (hQ ad D cy (fun _ ws rv ws1 => fx_sm (gsM, TM, cy, fun _ => True) [(12, 55), (1000, 32), (1000, 33), (1000, 34)] ws ws1 ∧ ∃ z, rv = some (zv z) ∧ 0 ≤ z ∧ z ≤ 36) ([.ref r]) ws s.heap.size) ([.ref r]).toArray s 0 0 (va_A ws s.heap.size)) cX12_showSource 5 yX12_showSource.cls 37 [(0, .ref r), (1, zv P), (2, zv a), (3, zv b), (4, zv v)] [] w := by
        clear p3
        intro hpos vs hv0 hvW hv1 hv2 n
        induction n with
        | zero => intro v hn; omega
        | succ n ihn =>
          intro v hn hv3 hv4
          obtain ⟨X, hX⟩ : ∃ X, X = sbp L1 L2 L3 o t h0 v a b c0 := ⟨_, rfl⟩
          obtain ⟨x1, y1, z1, eX, hx1, g1, g2, g3, g4, g5, g6⟩ := sbp_rg (o := o) (t := t) (h := h0) (v := v) hT
          rw [← hX] at eX
          have hx2 := hx1
          unfold rgT at hx2
          have eX2 : X = 169 * x1 + 13 * y1 + z1 := eX
          have hne : v = vs → ¬ X = P ∧ vi w 32 (Int.toNat X) = vi w 32 (Int.toNat P) - 1 := fun e => by rw [hX, e]; exact ⟨hv1, hv2⟩
          refine hr_aln C 0 dX12_showSource_37 rfl rfl rfl ?_
          refine hr_il C 4 dX12_showSource_38 rfl rfl ?_
          refine hr_iln C 2 dX12_showSource_40 rfl rfl rfl ?_
          refine hr_iln C 3 dX12_showSource_41 rfl rfl rfl ?_
          refine hr_iln C 1 dX12_showSource_42 rfl rfl rfl ?_
          refine hr_bi C dX12_showSource_43 (by decide +kernel) rfl ?_
          refine hr_rem C dX12_showSource_45 (by omega) (by omega) (by omega) (by omega) rfl ?_
          refine hr_norm (st' := [zv (c0), zv (b), zv (a), zv (v), .ref r]) (by rw [show P % 13 = c0 by omega]) ?_
          refine hr_cV (As := [zv (v), zv (a), zv (b), zv (c0)]) (rest := []) C (h_stepBy h r (v) (a) (b) (c0) L1 L2 L3 W o t h0 hr0 ⟨by omega, by omega⟩ ⟨by omega, by omega⟩ ⟨by omega, by omega⟩ ⟨by omega, by omega⟩) ⟨by decide, by decide⟩ iV_X12_stepBy g_X12_449 TM0 hr0 dX12_showSource_46 rfl rfl (Nat.le_of_ble_eq_true rfl) rfl ⟨rfl, hen2⟩ (fun w1 rv o2 q3 => ?_)
          obtain ⟨rfl, rfl⟩ := q3
          refine hr_norm (st' := [zv (sbp L1 L2 L3 o t h0 (v) (a) (b) (c0))]) rfl ?_
          refine hr_norm (st' := [zv (X)]) (by rw [hX]) ?_
          refine hr_iln C 1 dX12_showSource_49 rfl rfl rfl ?_
          refine hr_cmp C 81 dX12_showSource_50 (by decide) ⟨by omega, by omega⟩ ⟨by omega, by omega⟩ rfl (fun c4 => ?_) (fun c4 => ?_)
          · have c4 : (X : Int) = P := c4
            refine hr_inc (lv' := [(4, zv (v + 1)), (0, .ref r), (1, zv (P)), (2, zv (a)), (3, zv (b))]) C 4 dX12_showSource_81 rfl (by decide) rfl rfl ?_
            refine hr_goto C 37 dX12_showSource_84 (by decide) ?_
            refine hr_pick (lv' := [(0, .ref r), (1, zv (P)), (2, zv (a)), (3, zv (b)), (4, zv (v + 1))]) [1, 2, 3, 4, 0] rfl ?_
            exact ihn _ (by omega) (by omega) (by omega)
          · have c4 : ¬ (X : Int) = P := c4
            refine hr_aln C 0 dX12_showSource_53 rfl rfl rfl ?_
            refine hr_gA (g := 32) C hr0 TM0 rfl (by decide) fl_X12_110 dX12_showSource_54 rfl (fun a5 ha6 => ?_)
            refine hr_aln C 0 dX12_showSource_57 rfl rfl rfl ?_
            refine hr_il C 4 dX12_showSource_58 rfl rfl ?_
            refine hr_iln C 2 dX12_showSource_60 rfl rfl rfl ?_
            refine hr_iln C 3 dX12_showSource_61 rfl rfl rfl ?_
            refine hr_iln C 1 dX12_showSource_62 rfl rfl rfl ?_
            refine hr_bi C dX12_showSource_63 (by decide +kernel) rfl ?_
            refine hr_rem C dX12_showSource_65 (by omega) (by omega) (by omega) (by omega) rfl ?_
            refine hr_norm (st' := [zv (c0), zv (b), zv (a), zv (v), .ref r, .ref a5]) (by rw [show P % 13 = c0 by omega]) ?_
            refine hr_cV (As := [zv (v), zv (a), zv (b), zv (c0)]) (rest := [.ref a5]) C (h_stepBy h r (v) (a) (b) (c0) L1 L2 L3 W o t h0 hr0 ⟨by omega, by omega⟩ ⟨by omega, by omega⟩ ⟨by omega, by omega⟩ ⟨by omega, by omega⟩) ⟨by decide, by decide⟩ iV_X12_stepBy g_X12_449 TM0 hr0 dX12_showSource_66 rfl rfl (Nat.le_of_ble_eq_true rfl) rfl ⟨rfl, hen2⟩ (fun w7 rv o8 q9 => ?_)
            obtain ⟨rfl, rfl⟩ := q9
            refine hr_norm (st' := [zv (sbp L1 L2 L3 o t h0 (v) (a) (b) (c0)), .ref a5]) rfl ?_
            refine hr_norm (st' := [zv (X), .ref a5]) (by rw [hX]) ?_
            refine hr_ald C ha6 TMa_32 (by omega) (by omega) (by decide) dX12_showSource_69 rfl (fun b10 b11 => ?_)
            have b10 := gp1 b10
            simp only [rg] at b11
            refine hr_aln C 0 dX12_showSource_70 rfl rfl rfl ?_
            refine hr_gA (g := 32) C hr0 TM0 rfl (by decide) fl_X12_110 dX12_showSource_71 rfl (fun a12 ha13 => ?_)
            refine hr_iln C 1 dX12_showSource_74 rfl rfl rfl ?_
            refine hr_ald C ha13 TMa_32 (by omega) (by omega) (by decide) dX12_showSource_75 rfl (fun b14 b15 => ?_)
            have b14 := gp1 b14
            simp only [rg] at b15
            refine hr_ic C dX12_showSource_76 rfl ?_
            refine hr_sub C dX12_showSource_77 rfl ?_
            refine hr_cmp C 87 dX12_showSource_78 (by decide) ⟨by omega, by omega⟩ ⟨by omega, by omega⟩ rfl (fun c16 => ?_) (fun c16 => ?_)
            · have c16 : (vi w 32 (Int.toNat (X)) : Int) = (vi w 32 (Int.toNat (P))) - 1 := c16
              refine hr_aln C 0 dX12_showSource_87 rfl rfl rfl ?_
              refine hr_gA (g := 34) C hr0 TM0 rfl (by decide) fl_X12_116 dX12_showSource_88 rfl (fun a17 ha18 => ?_)
              refine hr_aln C 0 dX12_showSource_91 rfl rfl rfl ?_
              refine hr_gI (lo := 0) (hi := 36) C hr0 TM0 rfl fl_X12_375 dX12_showSource_92 rfl (fun b19 b20 => ?_)
              refine hr_il C 4 dX12_showSource_95 rfl rfl ?_
              refine hr_ast C ha18 TMa_34 (by omega) (by omega) (by decide) ⟨by omega, by omega⟩ (hp1 (by omega) (by omega)) dX12_showSource_97 rfl (fun w21 o22 s23 e24 => ?_)
              refine hr_aln C 0 dX12_showSource_98 rfl rfl rfl ?_
              refine hr_dup C dX12_showSource_99 rfl rfl ?_
              refine hr_gI (lo := 0) (hi := 36) C hr0 TM0 rfl fl_X12_375 dX12_showSource_100 rfl (fun b25 b26 => ?_)
              have q27 : vi w21 0 55 = vi w 0 55 := by rw [e24, if_neg (by omega)]
              rw [q27] at b25 b26 ⊢
              refine hr_ic C dX12_showSource_103 rfl ?_
              refine hr_add C dX12_showSource_104 rfl ?_
              refine hr_pI (lo := 0) (hi := 36) C hr0 TM0 rfl ⟨by decide, by decide⟩ pl_X12_375 dX12_showSource_105 (by omega) (by omega) rfl (fun w28 o29 s30 e31 => ?_)
              refine hr_aln C 0 dX12_showSource_108 rfl rfl rfl ?_
              refine hr_il C 4 dX12_showSource_109 rfl rfl ?_
              refine hr_iln C 2 dX12_showSource_111 rfl rfl rfl ?_
              refine hr_iln C 3 dX12_showSource_112 rfl rfl rfl ?_
              refine hr_iln C 1 dX12_showSource_113 rfl rfl rfl ?_
              refine hr_bi C dX12_showSource_114 (by decide +kernel) rfl ?_
              refine hr_rem C dX12_showSource_116 (by omega) (by omega) (by omega) (by omega) rfl ?_
              refine hr_norm (st' := [zv (c0), zv (b), zv (a), zv (v), .ref r]) (by rw [show P % 13 = c0 by omega]) ?_
              refine hr_cV (As := [zv (v), zv (a), zv (b), zv (c0)]) (rest := []) C (h_stepBy h r (v) (a) (b) (c0) L1 L2 L3 W o t h0 hr0 ⟨by omega, by omega⟩ ⟨by omega, by omega⟩ ⟨by omega, by omega⟩ ⟨by omega, by omega⟩) ⟨by decide, by decide⟩ iV_X12_stepBy g_X12_449 TM0 hr0 dX12_showSource_117 rfl rfl (Nat.le_of_ble_eq_true rfl) rfl ⟨rfl, (en_sm hwo o29 (fx_sm_tr (fx_sm_tr sm s23 (by decide)) s30 (by decide)) (by decide) hen)⟩ (fun w32 rv o33 q34 => ?_)
              obtain ⟨rfl, rfl⟩ := q34
              refine hr_norm (st' := [zv (sbp L1 L2 L3 o t h0 (v) (a) (b) (c0))]) rfl ?_
              refine hr_norm (st' := [zv (X)]) (by rw [hX]) ?_
              refine hr_isn (lv' := [(1, zv (X)), (0, .ref r), (2, zv (a)), (3, zv (b)), (4, zv (v))]) C dX12_showSource_120 rfl (by decide) rfl rfl ?_
              refine hr_goto C 11 dX12_showSource_121 (by decide) ?_
              have k0 : vi w28 0 55 = (vi w 0 55) + 1 := by rw [e31, if_pos ⟨rfl, rfl⟩]
              have sm2 := (fx_sm_tr (fx_sm_tr sm s23 (by decide)) s30 (by decide))
              have k1 : ∀ j, vi w28 32 j = vi w 32 j := fun j => by rw [e31, if_neg (by omega)]; rw [e24, if_neg (by omega)]
              refine hr_pick (lv' := [(0, .ref r), (1, zv (plc x1 y1 z1))]) [1, 0] (by rw [← eX]; rfl) ?_
              exact ih x1 y1 z1 _ (by omega) o29 sm2 (en_sm hwo o29 sm2 (by decide) hen) (AL_congr k1 hal) hx1 (by omega) (by omega)
            · have c16 : ¬ (vi w 32 (Int.toNat (X)) : Int) = (vi w 32 (Int.toNat (P))) - 1 := c16
              refine hr_inc (lv' := [(4, zv (v + 1)), (0, .ref r), (1, zv (P)), (2, zv (a)), (3, zv (b))]) C 4 dX12_showSource_81 rfl (by decide) rfl rfl ?_
              refine hr_goto C 37 dX12_showSource_84 (by decide) ?_
              refine hr_pick (lv' := [(0, .ref r), (1, zv (P)), (2, zv (a)), (3, zv (b)), (4, zv (v + 1))]) [1, 2, 3, 4, 0] rfl ?_
              exact ihn _ (by omega) (by omega) (by omega)
      obtain ⟨n1, n2, n3, n4, n5, n6, n7⟩ := id hen2
      refine hr_aln C 0 dX12_showSource_11 rfl rfl rfl ?_
      refine hr_gA (g := 32) C hr0 TM0 rfl (by decide) fl_X12_110 dX12_showSource_12 rfl (fun a1 ha2 => ?_)
      refine hr_iln C 1 dX12_showSource_15 rfl rfl rfl ?_
      refine hr_ald C ha2 TMa_32 (by omega) (by omega) (by decide) dX12_showSource_16 rfl (fun b3 b4 => ?_)
      have b3 := gp1 b3
      simp only [rg] at b4
      refine hr_if C 124 dX12_showSource_17 (by decide) ⟨by omega, by omega⟩ rfl (fun c5 => ?_) (fun c5 => ?_)
      · have c5 : (vi w 32 (Int.toNat (P)) : Int) ≤ 0 := c5
        refine hr_aln C 0 dX12_showSource_124 rfl rfl rfl ?_
        refine hr_gI (lo := 0) (hi := 36) C hr0 TM0 rfl fl_X12_375 dX12_showSource_125 rfl (fun b6 b7 => ?_)
        exact hr_iret C hlocks hr dX12_showSource_128 ⟨sm, _, rfl, by omega, by omega⟩
      · have c5 : (0 : Int) < vi w 32 (Int.toNat (P)) := c5
        refine hr_iln C 1 dX12_showSource_20 rfl rfl rfl ?_
        refine hr_si C dX12_showSource_21 (by decide +kernel) rfl ?_
        refine hr_div C dX12_showSource_24 (by omega) (by omega) (by omega) (by omega) rfl ?_
        refine hr_norm (st' := [zv (a)]) (by rw [show P / 169 = a by omega]) ?_
        refine hr_isn (lv' := [(2, zv (a)), (0, .ref r), (1, zv (P))]) C dX12_showSource_25 rfl (by decide) rfl rfl ?_
        refine hr_iln C 2 dX12_showSource_26 rfl rfl rfl ?_
        refine hr_bi C dX12_showSource_27 (by decide +kernel) rfl ?_
        refine hr_div C dX12_showSource_29 (by omega) (by omega) (by omega) (by omega) rfl ?_
        refine hr_bi C dX12_showSource_30 (by decide +kernel) rfl ?_
        refine hr_rem C dX12_showSource_32 (by omega) (by omega) (by omega) (by omega) rfl ?_
        refine hr_norm (st' := [zv (b)]) (by rw [show (P / 13) % 13 = b by omega]) ?_
        refine hr_isn (lv' := [(3, zv (b)), (2, zv (a)), (0, .ref r), (1, zv (P))]) C dX12_showSource_33 rfl (by decide) rfl rfl ?_
        refine hr_ic C dX12_showSource_34 rfl ?_
        refine hr_is (lv' := [(4, zv (0)), (3, zv (b)), (2, zv (a)), (0, .ref r), (1, zv (P))]) C dX12_showSource_35 (by decide) rfl rfl ?_
        refine hr_pick (lv' := [(0, .ref r), (1, zv (P)), (2, zv (a)), (3, zv (b)), (4, zv (0))]) [3, 4, 2, 1, 0] rfl ?_
        obtain ⟨vs, v1, v2, v3, v4⟩ := p3 (by omega)
        exact inner (by omega) vs v1 v2 v3 v4 _ 0 (Nat.lt_succ_self _) (by omega) (by omega)
  refine hr_aln C 0 dX12_showSource_0 rfl rfl rfl ?_
  refine hr_cV (As := []) (rest := []) C (h_layNeeds h r L1 L2 L3 W o t h0 hr0 hL hL0 hW0 hW ho ht hh0) ⟨by decide, by decide⟩ iV_X12_layNeeds g_X12_457 TM0 hr0 dX12_showSource_1 rfl rfl (Nat.le_of_ble_eq_true rfl) rfl ⟨rfl, hen⟩ (fun w1 rv o2 q3 => ?_)
  obtain ⟨s4, rfl, hal⟩ := q3
  refine hr_ic C dX12_showSource_4 rfl ?_
  refine hr_ic C dX12_showSource_5 rfl ?_
  refine hr_ic C dX12_showSource_6 rfl ?_
  refine hr_cS (As := [zv (0), zv (0), zv (0)]) (rest := []) C (h_place h (0) (0) (0)) ⟨by decide, by decide⟩ iS_X12_place g_X12_446 dX12_showSource_7 rfl rfl (Nat.le_of_ble_eq_true rfl) rfl ⟨rfl, trivial⟩ (fun w5 rv o6 q7 => ?_)
  obtain ⟨rfl, rfl⟩ := q7
  refine hr_norm (st' := [zv (plc (0) (0) (0))]) rfl ?_
  refine hr_isn (lv' := [(1, zv (plc (0) (0) (0))), (0, .ref r)]) C dX12_showSource_10 rfl (by decide) rfl rfl ?_
  have sm2 : fx_sm (gsM, TM, cy, fun _ => True) [(12, 55), (1000, 32), (1000, 33), (1000, 34)] ws w1 := (fx_sm_tr fx_sm_refl s4 (by decide))
  have k0 : vi w1 0 55 = vi ws 0 55 := by rw [sm_f hwo o2 s4 (by decide)]
  refine hr_pick (lv' := [(0, .ref r), (1, zv (plc (0) (0) (0)))]) [1, 0] rfl ?_
  exact outer _ 0 0 0 _ (Nat.lt_succ_self _) o2 sm2 (en_sm hwo o2 sm2 (by decide) hen) hal ⟨by omega, by omega, by omega, by omega, by omega, by omega⟩ (by omega) (by omega)
