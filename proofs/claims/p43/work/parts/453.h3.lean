theorem m_233 : Cond.fieldLink RX12 57 "LostWordsModel" "ruleFrom" "[I" ∈ wsL_law := in_wsL_law_r10 _ (List.mem_of_getElem? (i := 17) rfl)
theorem m_234 : Cond.fieldLink RX12 60 "LostWordsModel" "ruleTo" "[I" ∈ wsL_law := in_wsL_law_r10 _ (List.mem_of_getElem? (i := 18) rfl)
theorem m_239 : Cond.fieldLink RX12 77 "LostWordsModel" "code" "[I" ∈ wsL_law := in_wsL_law_r10 _ (List.mem_of_getElem? (i := 23) rfl)
theorem m_240 : Cond.fieldLink RX12 80 "LostWordsModel" "codeNumber" "[I" ∈ wsL_law := in_wsL_law_r11 _ (List.mem_of_getElem? (i := 0) rfl)
theorem m_243 : Cond.fieldLink RX12 89 "LostWordsModel" "pile" "[I" ∈ wsL_law := in_wsL_law_r11 _ (List.mem_of_getElem? (i := 3) rfl)
theorem m_931 : Cond.methodLink RX12 353 yX12_asked ∈ wsL_law := in_wsL_law_r39 _ (List.mem_of_getElem? (i := 19) rfl)
theorem m_932 : Cond.instanceMethod yX12_asked ∈ wsL_law := in_wsL_law_r39 _ (List.mem_of_getElem? (i := 20) rfl)
theorem m_933 : Cond.selects RX12 yX12_asked yX12_asked ∈ wsL_law := in_wsL_law_r39 _ (List.mem_of_getElem? (i := 21) rfl)
theorem m_934 : Cond.code yX12_asked cX12_asked 4 (some .int) ∈ wsL_law := in_wsL_law_r39 _ (List.mem_of_getElem? (i := 22) rfl)
theorem m_939 : Cond.methodLink RX12 356 yX12_two ∈ wsL_law := in_wsL_law_r40 _ (List.mem_of_getElem? (i := 3) rfl)
theorem m_940 : Cond.static yX12_two ∈ wsL_law := in_wsL_law_r40 _ (List.mem_of_getElem? (i := 4) rfl)
theorem m_941 : Cond.code yX12_two cX12_two 3 (some .int) ∈ wsL_law := in_wsL_law_r40 _ (List.mem_of_getElem? (i := 5) rfl)
theorem fl_X12_60 : fx_gl wsL_law nestW classes RX12 (60, 12, 24) := ⟨RX12, TX12, 74, rfl, by decide, inlX12, Or.inl m_234⟩
theorem fl_X12_89 : fx_gl wsL_law nestW classes RX12 (89, 12, 33) := ⟨RX12, TX12, 74, rfl, by decide, inlX12, Or.inl m_243⟩
theorem fl_X12_77 : fx_gl wsL_law nestW classes RX12 (77, 12, 29) := ⟨RX12, TX12, 74, rfl, by decide, inlX12, Or.inl m_239⟩
theorem fl_X12_80 : fx_gl wsL_law nestW classes RX12 (80, 12, 30) := ⟨RX12, TX12, 74, rfl, by decide, inlX12, Or.inl m_240⟩
theorem fl_X12_57 : fx_gl wsL_law nestW classes RX12 (57, 12, 23) := ⟨RX12, TX12, 74, rfl, by decide, inlX12, Or.inl m_233⟩
theorem iS_X12_two : yX12_two.cls ≠ "java/lang/invoke/MethodHandle" ∧ yX12_two.cls ≠ "java/lang/invoke/VarHandle" ∧ (parseMethodDescriptor yX12_two.desc).map (fun d => d.parameters.length) = some 3 := by decide +kernel
theorem iV_X12_asked : yX12_asked.cls = RX12 ∧ yX12_asked.cls ≠ "java/lang/invoke/MethodHandle" ∧ yX12_asked.cls ≠ "java/lang/invoke/VarHandle" ∧ (parseMethodDescriptor yX12_asked.desc).map (fun d => d.parameters.length) = some 2 := by decide +kernel
theorem g_X12_356 : GoodIn wsL_law (va_wsS RX12 356 yX12_two (.code yX12_two cX12_two 3 (some .int) :: wsL_law)) := gdS m_939 m_940 m_5 m_941
theorem g_X12_353 : GoodIn wsL_law (wsV RX12 353 RX12 yX12_asked (.code yX12_asked cX12_asked 4 (some .int) :: wsL_law)) := gdV m_931 m_932 m_933 m_5 m_934
theorem dX12_isLetter_0 : decode cX12_isLetter 0 = .ok (.iload_n 0, 1) := by decide +kernel
theorem dX12_isLetter_1 : decode cX12_isLetter 1 = .ok (.bipush 97, 2) := by decide +kernel
theorem dX12_isLetter_3 : decode cX12_isLetter 3 = .ok (.if_icmp .lt 13, 3) := by decide +kernel
theorem dX12_isLetter_16 : decode cX12_isLetter 16 = .ok (.iconst 0, 1) := by decide +kernel
theorem dX12_isLetter_17 : decode cX12_isLetter 17 = .ok (.ireturn, 1) := by decide +kernel
theorem dX12_isLetter_6 : decode cX12_isLetter 6 = .ok (.iload_n 0, 1) := by decide +kernel
theorem dX12_isLetter_7 : decode cX12_isLetter 7 = .ok (.bipush 122, 2) := by decide +kernel
theorem dX12_isLetter_9 : decode cX12_isLetter 9 = .ok (.if_icmp .gt 7, 3) := by decide +kernel
theorem dX12_isLetter_12 : decode cX12_isLetter 12 = .ok (.iconst 1, 1) := by decide +kernel
theorem dX12_isLetter_13 : decode cX12_isLetter 13 = .ok (.goto 4, 3) := by decide +kernel
theorem dX12_reckoned_12 : decode cX12_reckoned 12 = .ok (.iload_n 2, 1) := by decide +kernel
theorem dX12_reckoned_13 : decode cX12_reckoned 13 = .ok (.aload_n 0, 1) := by decide +kernel
theorem dX12_reckoned_14 : decode cX12_reckoned 14 = .ok (.getfield 60, 3) := by decide +kernel
theorem dX12_reckoned_17 : decode cX12_reckoned 17 = .ok (.aload_n 0, 1) := by decide +kernel
theorem dX12_reckoned_18 : decode cX12_reckoned 18 = .ok (.getfield 274, 3) := by decide +kernel
theorem dX12_reckoned_21 : decode cX12_reckoned 21 = .ok (.iaload, 1) := by decide +kernel
theorem dX12_reckoned_22 : decode cX12_reckoned 22 = .ok (.if_icmp .ge 108, 3) := by decide +kernel
theorem dX12_reckoned_130 : decode cX12_reckoned 130 = .ok (.aload_n 0, 1) := by decide +kernel
theorem dX12_reckoned_131 : decode cX12_reckoned 131 = .ok (.getfield 89, 3) := by decide +kernel
theorem dX12_reckoned_134 : decode cX12_reckoned 134 = .ok (.iconst 0, 1) := by decide +kernel
theorem dX12_reckoned_135 : decode cX12_reckoned 135 = .ok (.iaload, 1) := by decide +kernel
theorem dX12_reckoned_136 : decode cX12_reckoned 136 = .ok (.ireturn, 1) := by decide +kernel
theorem dX12_reckoned_25 : decode cX12_reckoned 25 = .ok (.aload_n 0, 1) := by decide +kernel
theorem dX12_reckoned_26 : decode cX12_reckoned 26 = .ok (.getfield 77, 3) := by decide +kernel
theorem dX12_reckoned_29 : decode cX12_reckoned 29 = .ok (.iload_n 2, 1) := by decide +kernel
theorem dX12_reckoned_30 : decode cX12_reckoned 30 = .ok (.iaload, 1) := by decide +kernel
theorem dX12_reckoned_31 : decode cX12_reckoned 31 = .ok (.istore_n 3, 1) := by decide +kernel
theorem dX12_reckoned_32 : decode cX12_reckoned 32 = .ok (.iload_n 3, 1) := by decide +kernel
theorem dX12_reckoned_33 : decode cX12_reckoned 33 = .ok (.bipush 126, 2) := by decide +kernel
theorem dX12_reckoned_35 : decode cX12_reckoned 35 = .ok (.if_icmp .ne 30, 3) := by decide +kernel
theorem dX12_reckoned_65 : decode cX12_reckoned 65 = .ok (.iload_n 3, 1) := by decide +kernel
theorem dX12_reckoned_66 : decode cX12_reckoned 66 = .ok (.invokestatic 216, 3) := by decide +kernel
theorem dX12_reckoned_69 : decode cX12_reckoned 69 = .ok (.ifCond .eq 26, 3) := by decide +kernel
theorem dX12_reckoned_95 : decode cX12_reckoned 95 = .ok (.iinc 1 (-1), 3) := by decide +kernel
theorem dX12_reckoned_98 : decode cX12_reckoned 98 = .ok (.aload_n 0, 1) := by decide +kernel
theorem dX12_reckoned_99 : decode cX12_reckoned 99 = .ok (.getfield 89, 3) := by decide +kernel
theorem dX12_reckoned_102 : decode cX12_reckoned 102 = .ok (.iload_n 1, 1) := by decide +kernel
theorem dX12_reckoned_103 : decode cX12_reckoned 103 = .ok (.iconst 1, 1) := by decide +kernel
theorem dX12_reckoned_104 : decode cX12_reckoned 104 = .ok (.isub, 1) := by decide +kernel
theorem dX12_reckoned_105 : decode cX12_reckoned 105 = .ok (.iload_n 3, 1) := by decide +kernel
theorem dX12_reckoned_106 : decode cX12_reckoned 106 = .ok (.aload_n 0, 1) := by decide +kernel
theorem dX12_reckoned_107 : decode cX12_reckoned 107 = .ok (.getfield 89, 3) := by decide +kernel
theorem dX12_reckoned_110 : decode cX12_reckoned 110 = .ok (.iload_n 1, 1) := by decide +kernel
theorem dX12_reckoned_111 : decode cX12_reckoned 111 = .ok (.iconst 1, 1) := by decide +kernel
theorem dX12_reckoned_112 : decode cX12_reckoned 112 = .ok (.isub, 1) := by decide +kernel
theorem dX12_reckoned_113 : decode cX12_reckoned 113 = .ok (.iaload, 1) := by decide +kernel
theorem dX12_reckoned_114 : decode cX12_reckoned 114 = .ok (.aload_n 0, 1) := by decide +kernel
theorem dX12_reckoned_115 : decode cX12_reckoned 115 = .ok (.getfield 89, 3) := by decide +kernel
theorem dX12_reckoned_118 : decode cX12_reckoned 118 = .ok (.iload_n 1, 1) := by decide +kernel
theorem dX12_reckoned_119 : decode cX12_reckoned 119 = .ok (.iaload, 1) := by decide +kernel
theorem dX12_reckoned_120 : decode cX12_reckoned 120 = .ok (.invokestatic 356, 3) := by decide +kernel
theorem dX12_reckoned_123 : decode cX12_reckoned 123 = .ok (.iastore, 1) := by decide +kernel
theorem dX12_reckoned_124 : decode cX12_reckoned 124 = .ok (.iinc 2 1, 3) := by decide +kernel
theorem dX12_reckoned_127 : decode cX12_reckoned 127 = .ok (.goto (-115), 3) := by decide +kernel
theorem dX12_reckoned_72 : decode cX12_reckoned 72 = .ok (.aload_n 0, 1) := by decide +kernel
theorem dX12_reckoned_73 : decode cX12_reckoned 73 = .ok (.getfield 89, 3) := by decide +kernel
theorem dX12_reckoned_76 : decode cX12_reckoned 76 = .ok (.iload_n 1, 1) := by decide +kernel
theorem dX12_reckoned_77 : decode cX12_reckoned 77 = .ok (.aload_n 0, 1) := by decide +kernel
theorem dX12_reckoned_78 : decode cX12_reckoned 78 = .ok (.iload_n 3, 1) := by decide +kernel
theorem dX12_reckoned_79 : decode cX12_reckoned 79 = .ok (.aload_n 0, 1) := by decide +kernel
theorem dX12_reckoned_80 : decode cX12_reckoned 80 = .ok (.getfield 80, 3) := by decide +kernel
theorem dX12_reckoned_83 : decode cX12_reckoned 83 = .ok (.iload_n 2, 1) := by decide +kernel
theorem dX12_reckoned_84 : decode cX12_reckoned 84 = .ok (.iaload, 1) := by decide +kernel
theorem dX12_reckoned_85 : decode cX12_reckoned 85 = .ok (.invokevirtual 353, 3) := by decide +kernel
theorem dX12_reckoned_88 : decode cX12_reckoned 88 = .ok (.iastore, 1) := by decide +kernel
theorem dX12_reckoned_89 : decode cX12_reckoned 89 = .ok (.iinc 1 1, 3) := by decide +kernel
theorem dX12_reckoned_92 : decode cX12_reckoned 92 = .ok (.goto 32, 3) := by decide +kernel
theorem dX12_reckoned_38 : decode cX12_reckoned 38 = .ok (.aload_n 0, 1) := by decide +kernel
theorem dX12_reckoned_39 : decode cX12_reckoned 39 = .ok (.getfield 89, 3) := by decide +kernel
theorem dX12_reckoned_42 : decode cX12_reckoned 42 = .ok (.iload_n 1, 1) := by decide +kernel
theorem dX12_reckoned_43 : decode cX12_reckoned 43 = .ok (.iconst 1, 1) := by decide +kernel
theorem dX12_reckoned_44 : decode cX12_reckoned 44 = .ok (.isub, 1) := by decide +kernel
theorem dX12_reckoned_45 : decode cX12_reckoned 45 = .ok (.aload_n 0, 1) := by decide +kernel
theorem dX12_reckoned_46 : decode cX12_reckoned 46 = .ok (.getfield 89, 3) := by decide +kernel
theorem dX12_reckoned_49 : decode cX12_reckoned 49 = .ok (.iload_n 1, 1) := by decide +kernel
theorem dX12_reckoned_50 : decode cX12_reckoned 50 = .ok (.iconst 1, 1) := by decide +kernel
theorem dX12_reckoned_51 : decode cX12_reckoned 51 = .ok (.isub, 1) := by decide +kernel
theorem dX12_reckoned_52 : decode cX12_reckoned 52 = .ok (.iaload, 1) := by decide +kernel
theorem dX12_reckoned_53 : decode cX12_reckoned 53 = .ok (.ifCond .ne 7, 3) := by decide +kernel
theorem dX12_reckoned_60 : decode cX12_reckoned 60 = .ok (.iconst 0, 1) := by decide +kernel
theorem dX12_reckoned_61 : decode cX12_reckoned 61 = .ok (.iastore, 1) := by decide +kernel
theorem dX12_reckoned_62 : decode cX12_reckoned 62 = .ok (.goto 62, 3) := by decide +kernel
theorem dX12_reckoned_56 : decode cX12_reckoned 56 = .ok (.iconst 1, 1) := by decide +kernel
theorem dX12_reckoned_57 : decode cX12_reckoned 57 = .ok (.goto 4, 3) := by decide +kernel
theorem dX12_reckoned_0 : decode cX12_reckoned 0 = .ok (.iconst 0, 1) := by decide +kernel
theorem dX12_reckoned_1 : decode cX12_reckoned 1 = .ok (.istore_n 1, 1) := by decide +kernel
theorem dX12_reckoned_2 : decode cX12_reckoned 2 = .ok (.aload_n 0, 1) := by decide +kernel
theorem dX12_reckoned_3 : decode cX12_reckoned 3 = .ok (.getfield 57, 3) := by decide +kernel
theorem dX12_reckoned_6 : decode cX12_reckoned 6 = .ok (.aload_n 0, 1) := by decide +kernel
theorem dX12_reckoned_7 : decode cX12_reckoned 7 = .ok (.getfield 274, 3) := by decide +kernel
theorem dX12_reckoned_10 : decode cX12_reckoned 10 = .ok (.iaload, 1) := by decide +kernel
theorem dX12_reckoned_11 : decode cX12_reckoned 11 = .ok (.istore_n 2, 1) := by decide +kernel
set_option maxRecDepth 100000 in
set_option maxHeartbeats 4000000 in
theorem h_isLetter {l : Launch} {E : (Nat → Prop) → State → Prop} {ad : List Nat} {D : va_G} {cy : Nat → ClassId} (h : fx_env E D classes (tys cy) nestW) (v : Int) (hv : rg v) : hM l yX12_isLetter cX12_isLetter 1 (some .boolean) ({ frames := 0, cells := 0, slots := 0, locals := 0 }) E ad D cy (fun av ws => av = [zv v] ∧ True) (fun _ ws rv ws1 => ws = ws1 ∧ rv = some (zv (if 97 ≤ v ∧ v ≤ 122 then 1 else 0))) := by
  refine hM_of h (by decide) ?_
  intro av ws p e s m below meth c hwo hnd hpre hlocks hr C
  obtain ⟨rfl, hpre⟩ := hpre
  refine ⟨Nat.le_of_ble_eq_true rfl, ?_⟩
  simp only [rg] at hv
  refine hr_pick (lv' := [(0, zv v)]) [0] rfl ?_
  refine hr_iln C 0 dX12_isLetter_0 rfl rfl rfl ?_
  refine hr_bi C dX12_isLetter_1 (by decide +kernel) rfl ?_
  refine hr_cmp C 16 dX12_isLetter_3 (by decide) ⟨by omega, by omega⟩ ⟨by omega, by omega⟩ rfl (fun c1 => ?_) (fun c1 => ?_)
  · have c1 : (v : Int) < 97 := c1
    refine hr_ic C dX12_isLetter_16 rfl ?_
    exact hr_zret C hlocks hr (by first | exact Or.inl rfl | exact Or.inr rfl) dX12_isLetter_17 ⟨rfl, by first | rw [if_pos ⟨by omega, by omega⟩] | rw [if_neg (by omega)]⟩
  · have c1 : (97 : Int) ≤ v := c1
    refine hr_iln C 0 dX12_isLetter_6 rfl rfl rfl ?_
    refine hr_bi C dX12_isLetter_7 (by decide +kernel) rfl ?_
    refine hr_cmp C 16 dX12_isLetter_9 (by decide) ⟨by omega, by omega⟩ ⟨by omega, by omega⟩ rfl (fun c2 => ?_) (fun c2 => ?_)
    · have c2 : (122 : Int) < v := c2
      refine hr_ic C dX12_isLetter_16 rfl ?_
      exact hr_zret C hlocks hr (by first | exact Or.inl rfl | exact Or.inr rfl) dX12_isLetter_17 ⟨rfl, by first | rw [if_pos ⟨by omega, by omega⟩] | rw [if_neg (by omega)]⟩
    · have c2 : (v : Int) ≤ 122 := c2
      refine hr_ic C dX12_isLetter_12 rfl ?_
      refine hr_goto C 17 dX12_isLetter_13 (by decide) ?_
      exact hr_zret C hlocks hr (by first | exact Or.inl rfl | exact Or.inr rfl) dX12_isLetter_17 ⟨rfl, by first | rw [if_pos ⟨by omega, by omega⟩] | rw [if_neg (by omega)]⟩
set_option maxRecDepth 100000 in
set_option maxHeartbeats 4000000 in
theorem h_reckoned {l : Launch} {E : (Nat → Prop) → State → Prop} {ad : List Nat} {D : va_G} {cy : Nat → ClassId} (h : fx_env E D classes (tys cy) nestW) (a : Nat) (ha : ad[0]? = some a) : hM l yX12_reckoned cX12_reckoned 4 (some .int) ({ frames := 2, cells := 0, slots := 0, locals := 46 }) E ad D cy (fun av ws => av = [.ref a] ∧ imWF ws) (fun _ ws rv ws1 => fx_sm (gsM, TM, cy, fun _ => True) [(1000, 25)] ws ws1 ∧ ∃ z, rv = some (zv z)) := by
  refine hM_of h (by decide) ?_
  intro av ws p e s m below meth c hwo hnd hpre hlocks hr C
  obtain ⟨rfl, hpre⟩ := hpre
  refine ⟨Nat.le_of_ble_eq_true rfl, ?_⟩
  have wf0 := hpre (Int.toNat (vi ws 0 34))
  refine hr_pick (lv' := [(0, .ref a)]) [0] rfl ?_
  obtain ⟨f, hf⟩ : ∃ f, f = (vi ws 15 (Int.toNat (vi ws 0 34))).toNat := ⟨_, rfl⟩
  obtain ⟨t, ht⟩ : ∃ t, t = (vi ws 16 (Int.toNat (vi ws 0 34))).toNat := ⟨_, rfl⟩
  rw [← hf, ← ht] at wf0
  have loop : (Int.toNat (vi ws 0 34) < 2) → (f ≤ 1120) → ∀ (q i : Nat) (k n : Int) (w : va_W), t - (f + i) < q → fx_wo (gsM, TM, cy, fun _ => True) ad w → fx_sm (gsM, TM, cy, fun _ => True) [(1000, 25)] ws w → (f + i ≤ t ∨ i = 0) → k = (f : Int) + i → n = dep (vi ws 21) f i → HW l E ad D cy (va_A ws s.heap.size) s.heap p e ({ frames := 2, cells := 0, slots := 0, locals := 46 }) s m ([.ref a]).toArray below meth c (MQ below (hQ ad D cy (fun _ ws rv ws1 => fx_sm (gsM, TM, cy, fun _ => True) [(1000, 25)] ws ws1 ∧ ∃ z, rv = some (zv z)) ([.ref a]) ws s.heap.size) ([.ref a]).toArray s 0 0 (va_A ws s.heap.size)) cX12_reckoned 4 yX12_reckoned.cls 12 [(0, .ref a), (1, zv n), (2, zv k)] [] w := by
    intro hbk hf1 q
    have wf := wf0 hbk
    induction q with
    | zero => intro i k n w hq; omega
    | succ q ih =>
      intro i k n w hq how sm hit hk hn
      refine hr_iln C 2 dX12_reckoned_12 rfl rfl rfl ?_
      refine hr_aln C 0 dX12_reckoned_13 rfl rfl rfl ?_
      refine hr_gA (g := 16) C ha TM0 rfl (by decide) fl_X12_60 dX12_reckoned_14 rfl (fun a1 ha2 => ?_)
      refine hr_aln C 0 dX12_reckoned_17 rfl rfl rfl ?_
      refine hr_gI (lo := 0) (hi := 1) C ha TM0 rfl fl_X12_274 dX12_reckoned_18 rfl (fun b3 b4 => ?_)
      have q5 : vi w 0 34 = vi ws 0 34 := by rw [sm_f hwo how sm (by decide)]
      rw [q5] at b3 b4 ⊢
      refine hr_ald C ha2 TMa_16 (by omega) (by omega) (by decide) dX12_reckoned_21 rfl (fun b6 b7 => ?_)
      have b6 := gp1 b6
      have q8 : vi w 16 (Int.toNat (vi ws 0 34)) = vi ws 16 (Int.toNat (vi ws 0 34)) := by rw [sm_a hwo how sm TMa_16 (by decide)]
      rw [q8] at b6 b7 ⊢
      simp only [rg] at b7
      refine hr_cmp C 130 dX12_reckoned_22 (by decide) ⟨by omega, by omega⟩ ⟨by omega, by omega⟩ rfl (fun c9 => ?_) (fun c9 => ?_)
      · have c9 : (vi ws 16 (Int.toNat (vi ws 0 34)) : Int) ≤ k := c9
        refine hr_aln C 0 dX12_reckoned_130 rfl rfl rfl ?_
        refine hr_gA (g := 25) C ha TM0 rfl (by decide) fl_X12_89 dX12_reckoned_131 rfl (fun a10 ha11 => ?_)
        refine hr_ic C dX12_reckoned_134 rfl ?_
        refine hr_ald C ha11 TMa_25 (by omega) (by omega) (by decide) dX12_reckoned_135 rfl (fun b12 b13 => ?_)
        have b12 := gp1 b12
        have q14 : vi w 25 (Int.toNat (0)) = vi w 25 0 := by rfl
        rw [q14] at b12 b13 ⊢
        simp only [rg] at b13
        exact hr_iret C hlocks hr dX12_reckoned_136 ⟨sm, _, rfl⟩
      · have c9 : (k : Int) < vi ws 16 (Int.toNat (vi ws 0 34)) := c9
        refine hr_aln C 0 dX12_reckoned_25 rfl rfl rfl ?_
        refine hr_gA (g := 21) C ha TM0 rfl (by decide) fl_X12_77 dX12_reckoned_26 rfl (fun a15 ha16 => ?_)
        refine hr_iln C 2 dX12_reckoned_29 rfl rfl rfl ?_
        refine hr_ald C ha16 TMa_21 (by omega) (by omega) (by decide) dX12_reckoned_30 rfl (fun b17 b18 => ?_)
        have b17 := gp1 b17
        have q19 : vi w 21 (Int.toNat (k)) = vi ws 21 (Int.toNat (k)) := by rw [sm_a hwo how sm TMa_21 (by decide)]
        rw [q19] at b17 b18 ⊢
        simp only [rg] at b18
        refine hr_isn (lv' := [(3, zv (vi ws 21 (Int.toNat (k)))), (0, .ref a), (1, zv (n)), (2, zv (k))]) C dX12_reckoned_31 rfl (by decide) rfl rfl ?_
        have hki : Int.toNat k = f + i := by omega
        have hw1 := wf i (by omega)
        rw [← hki, ← hn] at hw1
        refine hr_iln C 0 dX12_reckoned_32 rfl rfl rfl ?_
        refine hr_bi C dX12_reckoned_33 (by decide +kernel) rfl ?_
        refine hr_cmp C 65 dX12_reckoned_35 (by decide) ⟨by omega, by omega⟩ ⟨by omega, by omega⟩ rfl (fun c20 => ?_) (fun c20 => ?_)
        · have c20 : ¬ (vi ws 21 (Int.toNat (k)) : Int) = 126 := c20
          refine hr_iln C 0 dX12_reckoned_65 rfl rfl rfl ?_
          refine hr_cS (As := [zv (vi ws 21 (Int.toNat (k)))]) (rest := []) C (h_isLetter h (vi ws 21 (Int.toNat (k))) ⟨by omega, by omega⟩) ⟨by decide, by decide⟩ iS_X12_isLetter g_X12_216 dX12_reckoned_66 rfl rfl (Nat.le_of_ble_eq_true rfl) rfl ⟨rfl, trivial⟩ (fun w21 rv o22 q23 => ?_)
          obtain ⟨rfl, rfl⟩ := q23
          obtain ⟨t24, et25⟩ : ∃ t, t = (if 97 ≤ vi ws 21 (Int.toNat (k)) ∧ vi ws 21 (Int.toNat (k)) ≤ 122 then 1 else 0 : Int) := ⟨_, rfl⟩
          rw [← et25]
          have e26 : (t24 = 1 ∧ (97 ≤ vi ws 21 (Int.toNat (k)) ∧ vi ws 21 (Int.toNat (k)) ≤ 122)) ∨ (t24 = 0 ∧ ¬ (97 ≤ vi ws 21 (Int.toNat (k)) ∧ vi ws 21 (Int.toNat (k)) ≤ 122)) := by rw [et25]; split <;> simp_all
          clear et25
          refine hr_norm (st' := [zv (t24)]) rfl ?_
          refine hr_if C 95 dX12_reckoned_69 (by decide) ⟨by omega, by omega⟩ rfl (fun c27 => ?_) (fun c27 => ?_)
          · have c27 : (t24 : Int) = 0 := c27
            rw [if_neg (by omega), if_neg (by omega)] at hw1
            refine hr_inc (lv' := [(1, zv (n + (-1))), (3, zv (vi ws 21 (Int.toNat (k)))), (0, .ref a), (2, zv (k))]) C 2 dX12_reckoned_95 rfl (by decide) rfl rfl ?_
            refine hr_aln C 2 dX12_reckoned_98 rfl rfl rfl ?_
            refine hr_gA (g := 25) C ha TM0 rfl (by decide) fl_X12_89 dX12_reckoned_99 rfl (fun a28 ha29 => ?_)
            refine hr_iln C 0 dX12_reckoned_102 rfl rfl rfl ?_
            refine hr_ic C dX12_reckoned_103 rfl ?_
            refine hr_sub C dX12_reckoned_104 rfl ?_
            refine hr_iln C 1 dX12_reckoned_105 rfl rfl rfl ?_
            refine hr_aln C 2 dX12_reckoned_106 rfl rfl rfl ?_
            refine hr_gA (g := 25) C ha TM0 rfl (by decide) fl_X12_89 dX12_reckoned_107 rfl (fun a30 ha31 => ?_)
            refine hr_iln C 0 dX12_reckoned_110 rfl rfl rfl ?_
            refine hr_ic C dX12_reckoned_111 rfl ?_
            refine hr_sub C dX12_reckoned_112 rfl ?_
            refine hr_ald C ha31 TMa_25 (by omega) (by omega) (by decide) dX12_reckoned_113 rfl (fun b32 b33 => ?_)
            have b32 := gp1 b32
            simp only [rg] at b33
            refine hr_aln C 2 dX12_reckoned_114 rfl rfl rfl ?_
            refine hr_gA (g := 25) C ha TM0 rfl (by decide) fl_X12_89 dX12_reckoned_115 rfl (fun a34 ha35 => ?_)
            refine hr_iln C 0 dX12_reckoned_118 rfl rfl rfl ?_
            refine hr_ald C ha35 TMa_25 (by omega) (by omega) (by decide) dX12_reckoned_119 rfl (fun b36 b37 => ?_)
            have b36 := gp1 b36
            simp only [rg] at b37
            refine hr_cS (As := [zv (vi ws 21 (Int.toNat (k))), zv (vi w 25 (Int.toNat ((n + (-1)) - 1))), zv (vi w 25 (Int.toNat (n + (-1))))]) (rest := [zv ((n + (-1)) - 1), .ref a28]) C (hM_fx (km306 h)) ⟨by decide, by decide⟩ iS_X12_two g_X12_356 dX12_reckoned_120 rfl rfl (Nat.le_of_ble_eq_true rfl) rfl ⟨(ty_cons (ok_top _) (ty_cons (ok_top _) (ty_cons (ok_top _) ty_nil))), ⟨_, rfl⟩⟩ (fun w38 rv o39 q40 => ?_)
            obtain ⟨s41, po, hpo42, hrv43, hty44, rt, hfs45⟩ := q40
            replace s41 : fx_sm (gsM, TM, cy, fun _ => True) [] w w38 := s41
            simp only [km306_c, List.mem_cons, List.not_mem_nil, or_false] at hpo42
            rcases hpo42 with rfl | rfl | rfl
            · obtain ⟨v46, rfl, hv47⟩ := hrv43
              obtain ⟨z48, rfl, b49, b50, b51⟩ := ok_iz hv47
              simp only [rg] at b51
              obtain rfl : z48 = 1 := by omega
              refine hr_norm (st' := [zv (1), zv ((n + (-1)) - 1), .ref a28]) rfl ?_
              refine hr_ast C ha29 TMa_25 (by omega) (by omega) (by decide) ⟨by omega, by omega⟩ (hp1 (by omega) (by omega)) dX12_reckoned_123 rfl (fun w52 o53 s54 e55 => ?_)
              refine hr_inc (lv' := [(2, zv (k + 1)), (1, zv (n + (-1))), (3, zv (vi ws 21 (Int.toNat (k)))), (0, .ref a)]) C 3 dX12_reckoned_124 rfl (by decide) rfl rfl ?_
              refine hr_goto C 12 dX12_reckoned_127 (by decide) ?_
              refine hr_pick (lv' := [(0, .ref a), (1, zv (n + (-1))), (2, zv (k + 1))]) [3, 1, 0] rfl ?_
              exact ih (i + 1) _ _ _ (by omega) o53 (fx_sm_tr (fx_sm_tr (fx_sm_tr fx_sm_refl sm (by decide)) s41 (by decide)) s54 (by decide)) (by omega) (by omega) (by simp only [dep, dl]; rw [← hki, ← hn]; rw [if_neg (by omega), if_neg (by omega)])
            · obtain ⟨v56, rfl, hv57⟩ := hrv43
              obtain ⟨z58, rfl, b59, b60, b61⟩ := ok_iz hv57
              simp only [rg] at b61
              obtain rfl : z58 = 0 := by omega
              refine hr_norm (st' := [zv (0), zv ((n + (-1)) - 1), .ref a28]) rfl ?_
              refine hr_ast C ha29 TMa_25 (by omega) (by omega) (by decide) ⟨by omega, by omega⟩ (hp1 (by omega) (by omega)) dX12_reckoned_123 rfl (fun w62 o63 s64 e65 => ?_)
              refine hr_inc (lv' := [(2, zv (k + 1)), (1, zv (n + (-1))), (3, zv (vi ws 21 (Int.toNat (k)))), (0, .ref a)]) C 3 dX12_reckoned_124 rfl (by decide) rfl rfl ?_
              refine hr_goto C 12 dX12_reckoned_127 (by decide) ?_
              refine hr_pick (lv' := [(0, .ref a), (1, zv (n + (-1))), (2, zv (k + 1))]) [3, 1, 0] rfl ?_
              exact ih (i + 1) _ _ _ (by omega) o63 (fx_sm_tr (fx_sm_tr (fx_sm_tr fx_sm_refl sm (by decide)) s41 (by decide)) s64 (by decide)) (by omega) (by omega) (by simp only [dep, dl]; rw [← hki, ← hn]; rw [if_neg (by omega), if_neg (by omega)])
            · obtain ⟨v66, rfl, hv67⟩ := hrv43
              obtain ⟨z68, rfl, b69, b70, b71⟩ := ok_iz hv67
              simp only [rg] at b71
              have hp72 := ty_at hty44 0 rfl rfl ⟨by omega, by omega⟩
              refine hr_norm (st' := [zv (z68), zv ((n + (-1)) - 1), .ref a28]) rfl ?_
              refine hr_ast C ha29 TMa_25 (by omega) (by omega) (by decide) ⟨by omega, by omega⟩ (hp1 (by omega) (by omega)) dX12_reckoned_123 rfl (fun w73 o74 s75 e76 => ?_)
              refine hr_inc (lv' := [(2, zv (k + 1)), (1, zv (n + (-1))), (3, zv (vi ws 21 (Int.toNat (k)))), (0, .ref a)]) C 3 dX12_reckoned_124 rfl (by decide) rfl rfl ?_
              refine hr_goto C 12 dX12_reckoned_127 (by decide) ?_
              refine hr_pick (lv' := [(0, .ref a), (1, zv (n + (-1))), (2, zv (k + 1))]) [3, 1, 0] rfl ?_
              exact ih (i + 1) _ _ _ (by omega) o74 (fx_sm_tr (fx_sm_tr (fx_sm_tr fx_sm_refl sm (by decide)) s41 (by decide)) s75 (by decide)) (by omega) (by omega) (by simp only [dep, dl]; rw [← hki, ← hn]; rw [if_neg (by omega), if_neg (by omega)])
          · have c27 : ¬ (t24 : Int) = 0 := c27
            rw [if_pos (by omega)] at hw1
            refine hr_aln C 1 dX12_reckoned_72 rfl rfl rfl ?_
            refine hr_gA (g := 25) C ha TM0 rfl (by decide) fl_X12_89 dX12_reckoned_73 rfl (fun a77 ha78 => ?_)
            refine hr_iln C 2 dX12_reckoned_76 rfl rfl rfl ?_
            refine hr_aln C 1 dX12_reckoned_77 rfl rfl rfl ?_
            refine hr_iln C 0 dX12_reckoned_78 rfl rfl rfl ?_
            refine hr_aln C 1 dX12_reckoned_79 rfl rfl rfl ?_
            refine hr_gA (g := 22) C ha TM0 rfl (by decide) fl_X12_80 dX12_reckoned_80 rfl (fun a79 ha80 => ?_)
            refine hr_iln C 3 dX12_reckoned_83 rfl rfl rfl ?_
            refine hr_ald C ha80 TMa_22 (by omega) (by omega) (by decide) dX12_reckoned_84 rfl (fun b81 b82 => ?_)
            have b81 := gp1 b81
            have q83 : vi w 22 (Int.toNat (k)) = vi ws 22 (Int.toNat (k)) := by rw [sm_a hwo how sm TMa_22 (by decide)]
            rw [q83] at b81 b82 ⊢
            simp only [rg] at b82
            refine hr_cV (As := [zv (vi ws 21 (Int.toNat (k))), zv (vi ws 22 (Int.toNat (k)))]) (rest := [zv (n), .ref a77]) C (hM_fx (km308 h)) ⟨by decide, by decide⟩ iV_X12_asked g_X12_353 TM0 ha dX12_reckoned_85 rfl rfl (Nat.le_of_ble_eq_true rfl) rfl ⟨(ty_cons (ok_r ha (by decide) (by decide)) (ty_cons (ok_top _) (ty_cons (ok_top _) ty_nil))), ⟨_, rfl⟩⟩ (fun w84 rv o85 q86 => ?_)
            obtain ⟨s87, po, hpo88, hrv89, hty90, rt, hfs91⟩ := q86
            replace s87 : fx_sm (gsM, TM, cy, fun _ => True) [] w w84 := s87
            simp only [km308_c, List.mem_cons, List.not_mem_nil, or_false] at hpo88
            rcases hpo88 with rfl | rfl
            · obtain ⟨v92, rfl, hv93⟩ := hrv89
              obtain ⟨z94, rfl, b95, b96, b97⟩ := ok_iz hv93
              simp only [rg] at b97
              refine hr_norm (st' := [zv (z94), zv (n), .ref a77]) rfl ?_
              refine hr_ast C ha78 TMa_25 (by omega) (by omega) (by decide) ⟨by omega, by omega⟩ (hp1 (by omega) (by omega)) dX12_reckoned_88 rfl (fun w98 o99 s100 e101 => ?_)
              refine hr_inc (lv' := [(1, zv (n + 1)), (3, zv (vi ws 21 (Int.toNat (k)))), (0, .ref a), (2, zv (k))]) C 2 dX12_reckoned_89 rfl (by decide) rfl rfl ?_
              refine hr_goto C 124 dX12_reckoned_92 (by decide) ?_
              refine hr_inc (lv' := [(2, zv (k + 1)), (1, zv (n + 1)), (3, zv (vi ws 21 (Int.toNat (k)))), (0, .ref a)]) C 3 dX12_reckoned_124 rfl (by decide) rfl rfl ?_
              refine hr_goto C 12 dX12_reckoned_127 (by decide) ?_
              refine hr_pick (lv' := [(0, .ref a), (1, zv (n + 1)), (2, zv (k + 1))]) [3, 1, 0] rfl ?_
              exact ih (i + 1) _ _ _ (by omega) o99 (fx_sm_tr (fx_sm_tr (fx_sm_tr fx_sm_refl sm (by decide)) s87 (by decide)) s100 (by decide)) (by omega) (by omega) (by simp only [dep, dl]; rw [← hki, ← hn]; rw [if_pos (by omega)])
            · obtain ⟨v102, rfl, hv103⟩ := hrv89
              obtain ⟨z104, rfl, b105, b106, b107⟩ := ok_iz hv103
              simp only [rg] at b107
              obtain rfl : z104 = 0 := by omega
              have hp108 := ty_at hty90 1 rfl rfl ⟨by omega, by omega⟩
              refine hr_norm (st' := [zv (0), zv (n), .ref a77]) rfl ?_
              refine hr_ast C ha78 TMa_25 (by omega) (by omega) (by decide) ⟨by omega, by omega⟩ (hp1 (by omega) (by omega)) dX12_reckoned_88 rfl (fun w109 o110 s111 e112 => ?_)
              refine hr_inc (lv' := [(1, zv (n + 1)), (3, zv (vi ws 21 (Int.toNat (k)))), (0, .ref a), (2, zv (k))]) C 2 dX12_reckoned_89 rfl (by decide) rfl rfl ?_
              refine hr_goto C 124 dX12_reckoned_92 (by decide) ?_
              refine hr_inc (lv' := [(2, zv (k + 1)), (1, zv (n + 1)), (3, zv (vi ws 21 (Int.toNat (k)))), (0, .ref a)]) C 3 dX12_reckoned_124 rfl (by decide) rfl rfl ?_
              refine hr_goto C 12 dX12_reckoned_127 (by decide) ?_
              refine hr_pick (lv' := [(0, .ref a), (1, zv (n + 1)), (2, zv (k + 1))]) [3, 1, 0] rfl ?_
              exact ih (i + 1) _ _ _ (by omega) o110 (fx_sm_tr (fx_sm_tr (fx_sm_tr fx_sm_refl sm (by decide)) s87 (by decide)) s111 (by decide)) (by omega) (by omega) (by simp only [dep, dl]; rw [← hki, ← hn]; rw [if_pos (by omega)])
        · have c20 : (vi ws 21 (Int.toNat (k)) : Int) = 126 := c20
          rw [if_neg (by omega), if_pos (by omega)] at hw1
          refine hr_aln C 1 dX12_reckoned_38 rfl rfl rfl ?_
          refine hr_gA (g := 25) C ha TM0 rfl (by decide) fl_X12_89 dX12_reckoned_39 rfl (fun a113 ha114 => ?_)
          refine hr_iln C 2 dX12_reckoned_42 rfl rfl rfl ?_
          refine hr_ic C dX12_reckoned_43 rfl ?_
          refine hr_sub C dX12_reckoned_44 rfl ?_
          refine hr_aln C 1 dX12_reckoned_45 rfl rfl rfl ?_
          refine hr_gA (g := 25) C ha TM0 rfl (by decide) fl_X12_89 dX12_reckoned_46 rfl (fun a115 ha116 => ?_)
          refine hr_iln C 2 dX12_reckoned_49 rfl rfl rfl ?_
          refine hr_ic C dX12_reckoned_50 rfl ?_
          refine hr_sub C dX12_reckoned_51 rfl ?_
          refine hr_ald C ha116 TMa_25 (by omega) (by omega) (by decide) dX12_reckoned_52 rfl (fun b117 b118 => ?_)
          have b117 := gp1 b117
          simp only [rg] at b118
          refine hr_if C 60 dX12_reckoned_53 (by decide) ⟨by omega, by omega⟩ rfl (fun c119 => ?_) (fun c119 => ?_)
          · have c119 : ¬ (vi w 25 (Int.toNat (n - 1)) : Int) = 0 := c119
            refine hr_ic C dX12_reckoned_60 rfl ?_
            refine hr_ast C ha114 TMa_25 (by omega) (by omega) (by decide) ⟨by omega, by omega⟩ (hp1 (by omega) (by omega)) dX12_reckoned_61 rfl (fun w120 o121 s122 e123 => ?_)
            refine hr_goto C 124 dX12_reckoned_62 (by decide) ?_
            refine hr_inc (lv' := [(2, zv (k + 1)), (3, zv (vi ws 21 (Int.toNat (k)))), (0, .ref a), (1, zv (n))]) C 3 dX12_reckoned_124 rfl (by decide) rfl rfl ?_
            refine hr_goto C 12 dX12_reckoned_127 (by decide) ?_
            refine hr_pick (lv' := [(0, .ref a), (1, zv (n)), (2, zv (k + 1))]) [2, 3, 0] rfl ?_
            exact ih (i + 1) _ _ _ (by omega) o121 (fx_sm_tr (fx_sm_tr fx_sm_refl sm (by decide)) s122 (by decide)) (by omega) (by omega) (by simp only [dep, dl]; rw [← hki, ← hn]; rw [if_neg (by omega), if_pos (by omega)]; omega)
          · have c119 : (vi w 25 (Int.toNat (n - 1)) : Int) = 0 := c119
            refine hr_ic C dX12_reckoned_56 rfl ?_
            refine hr_goto C 61 dX12_reckoned_57 (by decide) ?_
            refine hr_ast C ha114 TMa_25 (by omega) (by omega) (by decide) ⟨by omega, by omega⟩ (hp1 (by omega) (by omega)) dX12_reckoned_61 rfl (fun w124 o125 s126 e127 => ?_)
            refine hr_goto C 124 dX12_reckoned_62 (by decide) ?_
            refine hr_inc (lv' := [(2, zv (k + 1)), (3, zv (vi ws 21 (Int.toNat (k)))), (0, .ref a), (1, zv (n))]) C 3 dX12_reckoned_124 rfl (by decide) rfl rfl ?_
            refine hr_goto C 12 dX12_reckoned_127 (by decide) ?_
            refine hr_pick (lv' := [(0, .ref a), (1, zv (n)), (2, zv (k + 1))]) [2, 3, 0] rfl ?_
            exact ih (i + 1) _ _ _ (by omega) o125 (fx_sm_tr (fx_sm_tr fx_sm_refl sm (by decide)) s126 (by decide)) (by omega) (by omega) (by simp only [dep, dl]; rw [← hki, ← hn]; rw [if_neg (by omega), if_pos (by omega)]; omega)
  refine hr_ic C dX12_reckoned_0 rfl ?_
  refine hr_isn (lv' := [(1, zv (0)), (0, .ref a)]) C dX12_reckoned_1 rfl (by decide) rfl rfl ?_
  refine hr_aln C 1 dX12_reckoned_2 rfl rfl rfl ?_
  refine hr_gA (g := 15) C ha TM0 rfl (by decide) fl_X12_57 dX12_reckoned_3 rfl (fun a1 ha2 => ?_)
  refine hr_aln C 1 dX12_reckoned_6 rfl rfl rfl ?_
  refine hr_gI (lo := 0) (hi := 1) C ha TM0 rfl fl_X12_274 dX12_reckoned_7 rfl (fun b3 b4 => ?_)
  refine hr_ald C ha2 TMa_15 (by omega) (by omega) (by decide) dX12_reckoned_10 rfl (fun b5 b6 => ?_)
  have b5 := gp1 b5
  simp only [rg] at b6
  refine hr_isn (lv' := [(2, zv (vi ws 15 (Int.toNat (vi ws 0 34)))), (1, zv (0)), (0, .ref a)]) C dX12_reckoned_11 rfl (by decide) rfl rfl ?_
  refine hr_pick (lv' := [(0, .ref a), (1, zv (0)), (2, zv (vi ws 15 (Int.toNat (vi ws 0 34))))]) [2, 1, 0] rfl ?_
  exact loop (by omega) (by omega) _ 0 _ _ _ (Nat.lt_succ_self _) hwo fx_sm_refl (Or.inr rfl) (by omega) rfl
