theorem m_248 : Cond.fieldLink RX12 104 "LostWordsModel" "was" "[I" ∈ wsL_law := in_wsL_law_r11 _ (List.mem_of_getElem? (i := 8) rfl)
theorem m_1083 : Cond.methodLink RX12 428 yX12_exchange ∈ wsL_law := in_wsL_law_r46 _ (List.mem_of_getElem? (i := 3) rfl)
theorem m_1084 : Cond.instanceMethod yX12_exchange ∈ wsL_law := in_wsL_law_r46 _ (List.mem_of_getElem? (i := 4) rfl)
theorem m_1085 : Cond.selects RX12 yX12_exchange yX12_exchange ∈ wsL_law := in_wsL_law_r46 _ (List.mem_of_getElem? (i := 5) rfl)
theorem m_1086 : Cond.code yX12_exchange cX12_exchange 3 none ∈ wsL_law := in_wsL_law_r46 _ (List.mem_of_getElem? (i := 6) rfl)
theorem fl_X12_104 : fx_gl wsL_law nestW classes RX12 (104, 12, 48) := ⟨RX12, TX12, 74, rfl, by decide, inlX12, Or.inl m_248⟩
theorem iV_X12_exchange : yX12_exchange.cls = RX12 ∧ yX12_exchange.cls ≠ "java/lang/invoke/MethodHandle" ∧ yX12_exchange.cls ≠ "java/lang/invoke/VarHandle" ∧ (parseMethodDescriptor yX12_exchange.desc).map (fun d => d.parameters.length) = some 0 := by decide +kernel
theorem g_X12_428 : GoodIn wsL_law (wsV RX12 428 RX12 yX12_exchange (.code yX12_exchange cX12_exchange 3 none :: wsL_law)) := gdV m_1083 m_1084 m_1085 m_5 m_1086
theorem dX12_keepAct_51 : decode cX12_keepAct 51 = .ok (.iload_n 1, 1) := by decide +kernel
theorem dX12_keepAct_52 : decode cX12_keepAct 52 = .ok (.bipush 15, 2) := by decide +kernel
theorem dX12_keepAct_54 : decode cX12_keepAct 54 = .ok (.if_icmp .ge 29, 3) := by decide +kernel
theorem dX12_keepAct_83 : decode cX12_keepAct 83 = .ok (.aload_n 0, 1) := by decide +kernel
theorem dX12_keepAct_84 : decode cX12_keepAct 84 = .ok (.dup, 1) := by decide +kernel
theorem dX12_keepAct_85 : decode cX12_keepAct 85 = .ok (.getfield 366, 3) := by decide +kernel
theorem dX12_keepAct_88 : decode cX12_keepAct 88 = .ok (.iconst 1, 1) := by decide +kernel
theorem dX12_keepAct_89 : decode cX12_keepAct 89 = .ok (.iadd, 1) := by decide +kernel
theorem dX12_keepAct_90 : decode cX12_keepAct 90 = .ok (.putfield 366, 3) := by decide +kernel
theorem dX12_keepAct_93 : decode cX12_keepAct 93 = .ok (.aload_n 0, 1) := by decide +kernel
theorem dX12_keepAct_94 : decode cX12_keepAct 94 = .ok (.iconst 0, 1) := by decide +kernel
theorem dX12_keepAct_95 : decode cX12_keepAct 95 = .ok (.putfield 369, 3) := by decide +kernel
theorem dX12_keepAct_98 : decode cX12_keepAct 98 = .ok (.return_, 1) := by decide +kernel
theorem dX12_keepAct_57 : decode cX12_keepAct 57 = .ok (.aload_n 0, 1) := by decide +kernel
theorem dX12_keepAct_58 : decode cX12_keepAct 58 = .ok (.getfield 104, 3) := by decide +kernel
theorem dX12_keepAct_61 : decode cX12_keepAct 61 = .ok (.bipush 15, 2) := by decide +kernel
theorem dX12_keepAct_63 : decode cX12_keepAct 63 = .ok (.aload_n 0, 1) := by decide +kernel
theorem dX12_keepAct_64 : decode cX12_keepAct 64 = .ok (.getfield 366, 3) := by decide +kernel
theorem dX12_keepAct_67 : decode cX12_keepAct 67 = .ok (.imul, 1) := by decide +kernel
theorem dX12_keepAct_68 : decode cX12_keepAct 68 = .ok (.iload_n 1, 1) := by decide +kernel
theorem dX12_keepAct_69 : decode cX12_keepAct 69 = .ok (.iadd, 1) := by decide +kernel
theorem dX12_keepAct_70 : decode cX12_keepAct 70 = .ok (.aload_n 0, 1) := by decide +kernel
theorem dX12_keepAct_71 : decode cX12_keepAct 71 = .ok (.getfield 92, 3) := by decide +kernel
theorem dX12_keepAct_74 : decode cX12_keepAct 74 = .ok (.iload_n 1, 1) := by decide +kernel
theorem dX12_keepAct_75 : decode cX12_keepAct 75 = .ok (.iaload, 1) := by decide +kernel
theorem dX12_keepAct_76 : decode cX12_keepAct 76 = .ok (.iastore, 1) := by decide +kernel
theorem dX12_keepAct_77 : decode cX12_keepAct 77 = .ok (.iinc 1 1, 3) := by decide +kernel
theorem dX12_keepAct_80 : decode cX12_keepAct 80 = .ok (.goto (-29), 3) := by decide +kernel
theorem dX12_keepAct_11 : decode cX12_keepAct 11 = .ok (.iload_n 1, 1) := by decide +kernel
theorem dX12_keepAct_12 : decode cX12_keepAct 12 = .ok (.sipush 600, 3) := by decide +kernel
theorem dX12_keepAct_15 : decode cX12_keepAct 15 = .ok (.if_icmp .ge 24, 3) := by decide +kernel
theorem dX12_keepAct_39 : decode cX12_keepAct 39 = .ok (.aload_n 0, 1) := by decide +kernel
theorem dX12_keepAct_40 : decode cX12_keepAct 40 = .ok (.dup, 1) := by decide +kernel
theorem dX12_keepAct_41 : decode cX12_keepAct 41 = .ok (.getfield 366, 3) := by decide +kernel
theorem dX12_keepAct_44 : decode cX12_keepAct 44 = .ok (.iconst 1, 1) := by decide +kernel
theorem dX12_keepAct_45 : decode cX12_keepAct 45 = .ok (.isub, 1) := by decide +kernel
theorem dX12_keepAct_46 : decode cX12_keepAct 46 = .ok (.putfield 366, 3) := by decide +kernel
theorem dX12_keepAct_49 : decode cX12_keepAct 49 = .ok (.iconst 0, 1) := by decide +kernel
theorem dX12_keepAct_50 : decode cX12_keepAct 50 = .ok (.istore_n 1, 1) := by decide +kernel
theorem dX12_keepAct_18 : decode cX12_keepAct 18 = .ok (.aload_n 0, 1) := by decide +kernel
theorem dX12_keepAct_19 : decode cX12_keepAct 19 = .ok (.getfield 104, 3) := by decide +kernel
theorem dX12_keepAct_22 : decode cX12_keepAct 22 = .ok (.iload_n 1, 1) := by decide +kernel
theorem dX12_keepAct_23 : decode cX12_keepAct 23 = .ok (.aload_n 0, 1) := by decide +kernel
theorem dX12_keepAct_24 : decode cX12_keepAct 24 = .ok (.getfield 104, 3) := by decide +kernel
theorem dX12_keepAct_27 : decode cX12_keepAct 27 = .ok (.iload_n 1, 1) := by decide +kernel
theorem dX12_keepAct_28 : decode cX12_keepAct 28 = .ok (.bipush 15, 2) := by decide +kernel
theorem dX12_keepAct_30 : decode cX12_keepAct 30 = .ok (.iadd, 1) := by decide +kernel
theorem dX12_keepAct_31 : decode cX12_keepAct 31 = .ok (.iaload, 1) := by decide +kernel
theorem dX12_keepAct_32 : decode cX12_keepAct 32 = .ok (.iastore, 1) := by decide +kernel
theorem dX12_keepAct_33 : decode cX12_keepAct 33 = .ok (.iinc 1 1, 3) := by decide +kernel
theorem dX12_keepAct_36 : decode cX12_keepAct 36 = .ok (.goto (-25), 3) := by decide +kernel
theorem dX12_keepAct_0 : decode cX12_keepAct 0 = .ok (.aload_n 0, 1) := by decide +kernel
theorem dX12_keepAct_1 : decode cX12_keepAct 1 = .ok (.getfield 366, 3) := by decide +kernel
theorem dX12_keepAct_4 : decode cX12_keepAct 4 = .ok (.bipush 40, 2) := by decide +kernel
theorem dX12_keepAct_6 : decode cX12_keepAct 6 = .ok (.if_icmp .ne 43, 3) := by decide +kernel
theorem dX12_keepAct_9 : decode cX12_keepAct 9 = .ok (.iconst 0, 1) := by decide +kernel
theorem dX12_keepAct_10 : decode cX12_keepAct 10 = .ok (.istore_n 1, 1) := by decide +kernel
theorem dX12_exchange_2 : decode cX12_exchange 2 = .ok (.iload_n 1, 1) := by decide +kernel
theorem dX12_exchange_3 : decode cX12_exchange 3 = .ok (.bipush 15, 2) := by decide +kernel
theorem dX12_exchange_5 : decode cX12_exchange 5 = .ok (.if_icmp .ge 51, 3) := by decide +kernel
theorem dX12_exchange_56 : decode cX12_exchange 56 = .ok (.return_, 1) := by decide +kernel
theorem dX12_exchange_8 : decode cX12_exchange 8 = .ok (.aload_n 0, 1) := by decide +kernel
theorem dX12_exchange_9 : decode cX12_exchange 9 = .ok (.getfield 104, 3) := by decide +kernel
theorem dX12_exchange_12 : decode cX12_exchange 12 = .ok (.bipush 15, 2) := by decide +kernel
theorem dX12_exchange_14 : decode cX12_exchange 14 = .ok (.aload_n 0, 1) := by decide +kernel
theorem dX12_exchange_15 : decode cX12_exchange 15 = .ok (.getfield 366, 3) := by decide +kernel
theorem dX12_exchange_18 : decode cX12_exchange 18 = .ok (.imul, 1) := by decide +kernel
theorem dX12_exchange_19 : decode cX12_exchange 19 = .ok (.iload_n 1, 1) := by decide +kernel
theorem dX12_exchange_20 : decode cX12_exchange 20 = .ok (.iadd, 1) := by decide +kernel
theorem dX12_exchange_21 : decode cX12_exchange 21 = .ok (.iaload, 1) := by decide +kernel
theorem dX12_exchange_22 : decode cX12_exchange 22 = .ok (.istore_n 2, 1) := by decide +kernel
theorem dX12_exchange_23 : decode cX12_exchange 23 = .ok (.aload_n 0, 1) := by decide +kernel
theorem dX12_exchange_24 : decode cX12_exchange 24 = .ok (.getfield 104, 3) := by decide +kernel
theorem dX12_exchange_27 : decode cX12_exchange 27 = .ok (.bipush 15, 2) := by decide +kernel
theorem dX12_exchange_29 : decode cX12_exchange 29 = .ok (.aload_n 0, 1) := by decide +kernel
theorem dX12_exchange_30 : decode cX12_exchange 30 = .ok (.getfield 366, 3) := by decide +kernel
theorem dX12_exchange_33 : decode cX12_exchange 33 = .ok (.imul, 1) := by decide +kernel
theorem dX12_exchange_34 : decode cX12_exchange 34 = .ok (.iload_n 1, 1) := by decide +kernel
theorem dX12_exchange_35 : decode cX12_exchange 35 = .ok (.iadd, 1) := by decide +kernel
theorem dX12_exchange_36 : decode cX12_exchange 36 = .ok (.aload_n 0, 1) := by decide +kernel
theorem dX12_exchange_37 : decode cX12_exchange 37 = .ok (.getfield 92, 3) := by decide +kernel
theorem dX12_exchange_40 : decode cX12_exchange 40 = .ok (.iload_n 1, 1) := by decide +kernel
theorem dX12_exchange_41 : decode cX12_exchange 41 = .ok (.iaload, 1) := by decide +kernel
theorem dX12_exchange_42 : decode cX12_exchange 42 = .ok (.iastore, 1) := by decide +kernel
theorem dX12_exchange_43 : decode cX12_exchange 43 = .ok (.aload_n 0, 1) := by decide +kernel
theorem dX12_exchange_44 : decode cX12_exchange 44 = .ok (.getfield 92, 3) := by decide +kernel
theorem dX12_exchange_47 : decode cX12_exchange 47 = .ok (.iload_n 1, 1) := by decide +kernel
theorem dX12_exchange_48 : decode cX12_exchange 48 = .ok (.iload_n 2, 1) := by decide +kernel
theorem dX12_exchange_49 : decode cX12_exchange 49 = .ok (.iastore, 1) := by decide +kernel
theorem dX12_exchange_50 : decode cX12_exchange 50 = .ok (.iinc 1 1, 3) := by decide +kernel
theorem dX12_exchange_53 : decode cX12_exchange 53 = .ok (.goto (-51), 3) := by decide +kernel
theorem dX12_exchange_0 : decode cX12_exchange 0 = .ok (.iconst 0, 1) := by decide +kernel
theorem dX12_exchange_1 : decode cX12_exchange 1 = .ok (.istore_n 1, 1) := by decide +kernel
theorem dX12_undo_0 : decode cX12_undo 0 = .ok (.aload_n 0, 1) := by decide +kernel
theorem dX12_undo_1 : decode cX12_undo 1 = .ok (.getfield 366, 3) := by decide +kernel
theorem dX12_undo_4 : decode cX12_undo 4 = .ok (.ifCond .ne 5, 3) := by decide +kernel
theorem dX12_undo_9 : decode cX12_undo 9 = .ok (.aload_n 0, 1) := by decide +kernel
theorem dX12_undo_10 : decode cX12_undo 10 = .ok (.dup, 1) := by decide +kernel
theorem dX12_undo_11 : decode cX12_undo 11 = .ok (.getfield 366, 3) := by decide +kernel
theorem dX12_undo_14 : decode cX12_undo 14 = .ok (.iconst 1, 1) := by decide +kernel
theorem dX12_undo_15 : decode cX12_undo 15 = .ok (.isub, 1) := by decide +kernel
theorem dX12_undo_16 : decode cX12_undo 16 = .ok (.putfield 366, 3) := by decide +kernel
theorem dX12_undo_19 : decode cX12_undo 19 = .ok (.aload_n 0, 1) := by decide +kernel
theorem dX12_undo_20 : decode cX12_undo 20 = .ok (.dup, 1) := by decide +kernel
theorem dX12_undo_21 : decode cX12_undo 21 = .ok (.getfield 369, 3) := by decide +kernel
theorem dX12_undo_24 : decode cX12_undo 24 = .ok (.iconst 1, 1) := by decide +kernel
theorem dX12_undo_25 : decode cX12_undo 25 = .ok (.iadd, 1) := by decide +kernel
theorem dX12_undo_26 : decode cX12_undo 26 = .ok (.putfield 369, 3) := by decide +kernel
theorem dX12_undo_29 : decode cX12_undo 29 = .ok (.aload_n 0, 1) := by decide +kernel
theorem dX12_undo_30 : decode cX12_undo 30 = .ok (.invokevirtual 428, 3) := by decide +kernel
theorem dX12_undo_33 : decode cX12_undo 33 = .ok (.iconst 1, 1) := by decide +kernel
theorem dX12_undo_34 : decode cX12_undo 34 = .ok (.ireturn, 1) := by decide +kernel
theorem dX12_undo_7 : decode cX12_undo 7 = .ok (.iconst 0, 1) := by decide +kernel
theorem dX12_undo_8 : decode cX12_undo 8 = .ok (.ireturn, 1) := by decide +kernel
theorem dX12_redo_0 : decode cX12_redo 0 = .ok (.aload_n 0, 1) := by decide +kernel
theorem dX12_redo_1 : decode cX12_redo 1 = .ok (.getfield 369, 3) := by decide +kernel
theorem dX12_redo_4 : decode cX12_redo 4 = .ok (.ifCond .ne 5, 3) := by decide +kernel
theorem dX12_redo_9 : decode cX12_redo 9 = .ok (.aload_n 0, 1) := by decide +kernel
theorem dX12_redo_10 : decode cX12_redo 10 = .ok (.invokevirtual 428, 3) := by decide +kernel
theorem dX12_redo_13 : decode cX12_redo 13 = .ok (.aload_n 0, 1) := by decide +kernel
theorem dX12_redo_14 : decode cX12_redo 14 = .ok (.dup, 1) := by decide +kernel
theorem dX12_redo_15 : decode cX12_redo 15 = .ok (.getfield 366, 3) := by decide +kernel
theorem dX12_redo_18 : decode cX12_redo 18 = .ok (.iconst 1, 1) := by decide +kernel
theorem dX12_redo_19 : decode cX12_redo 19 = .ok (.iadd, 1) := by decide +kernel
theorem dX12_redo_20 : decode cX12_redo 20 = .ok (.putfield 366, 3) := by decide +kernel
theorem dX12_redo_23 : decode cX12_redo 23 = .ok (.aload_n 0, 1) := by decide +kernel
theorem dX12_redo_24 : decode cX12_redo 24 = .ok (.dup, 1) := by decide +kernel
theorem dX12_redo_25 : decode cX12_redo 25 = .ok (.getfield 369, 3) := by decide +kernel
theorem dX12_redo_28 : decode cX12_redo 28 = .ok (.iconst 1, 1) := by decide +kernel
theorem dX12_redo_29 : decode cX12_redo 29 = .ok (.isub, 1) := by decide +kernel
theorem dX12_redo_30 : decode cX12_redo 30 = .ok (.putfield 369, 3) := by decide +kernel
theorem dX12_redo_33 : decode cX12_redo 33 = .ok (.iconst 1, 1) := by decide +kernel
theorem dX12_redo_34 : decode cX12_redo 34 = .ok (.ireturn, 1) := by decide +kernel
theorem dX12_redo_7 : decode cX12_redo 7 = .ok (.iconst 0, 1) := by decide +kernel
theorem dX12_redo_8 : decode cX12_redo 8 = .ok (.ireturn, 1) := by decide +kernel
set_option maxRecDepth 100000 in
set_option maxHeartbeats 4000000 in
theorem h_keepAct {l : Launch} {E : (Nat → Prop) → State → Prop} {ad : List Nat} {D : va_G} {cy : Nat → ClassId} (h : fx_env E D classes (tys cy) nestW) (a : Nat) (ha : ad[0]? = some a) : hM l yX12_keepAct cX12_keepAct 2 none ({ frames := 0, cells := 0, slots := 0, locals := 0 }) E ad D cy (fun av ws => av = [.ref a] ∧ True) (fun _ ws rv ws1 => fx_sm (gsM, TM, cy, fun _ => True) [(12, 49), (12, 50), (1000, 30)] ws ws1 ∧ rv = none ∧ 1 ≤ vi ws1 0 49 ∧ vi ws1 0 49 ≤ 40 ∧ vi ws1 0 50 = 0) := by
  refine hM_of h (by decide) ?_
  intro av ws p e s m below meth c hwo hnd hpre hlocks hr C
  obtain ⟨rfl, hpre⟩ := hpre
  refine ⟨Nat.le_of_ble_eq_true rfl, ?_⟩
  refine hr_pick (lv' := [(0, .ref a)]) [0] rfl ?_
  have loop1 : ∀ (q : Nat) (k : Int) (w : va_W), (15 - k).toNat < q → fx_wo (gsM, TM, cy, fun _ => True) ad w → 0 ≤ k → k ≤ 15 → fx_sm (gsM, TM, cy, fun _ => True) [(12, 49), (12, 50), (1000, 30)] ws w → 0 ≤ vi w 0 49 → vi w 0 49 ≤ 39 → HW l E ad D cy (va_A ws s.heap.size) s.heap p e ({ frames := 0, cells := 0, slots := 0, locals := 0 }) s m ([.ref a]).toArray below meth c (MQ below (hQ ad D cy (fun _ ws rv ws1 => fx_sm (gsM, TM, cy, fun _ => True) [(12, 49), (12, 50), (1000, 30)] ws ws1 ∧ rv = none ∧ 1 ≤ vi ws1 0 49 ∧ vi ws1 0 49 ≤ 40 ∧ vi ws1 0 50 = 0) ([.ref a]) ws s.heap.size) ([.ref a]).toArray s 0 0 (va_A ws s.heap.size)) cX12_keepAct 2 yX12_keepAct.cls 51 [(0, .ref a), (1, zv k)] [] w := by
    intro q
    induction q with
    | zero => intro k w hq; omega
    | succ q ih =>
      intro k w hq how h0 h1 sm h2 h3
      refine hr_iln C 1 dX12_keepAct_51 rfl rfl rfl ?_
      refine hr_bi C dX12_keepAct_52 (by decide +kernel) rfl ?_
      refine hr_cmp C 83 dX12_keepAct_54 (by decide) ⟨by omega, by omega⟩ ⟨by omega, by omega⟩ rfl (fun c1 => ?_) (fun c1 => ?_)
      · have c1 : (15 : Int) ≤ k := c1
        refine hr_aln C 0 dX12_keepAct_83 rfl rfl rfl ?_
        refine hr_dup C dX12_keepAct_84 rfl rfl ?_
        refine hr_gI (lo := 0) (hi := 40) C ha TM0 rfl fl_X12_366 dX12_keepAct_85 rfl (fun b2 b3 => ?_)
        refine hr_ic C dX12_keepAct_88 rfl ?_
        refine hr_add C dX12_keepAct_89 rfl ?_
        refine hr_pI (lo := 0) (hi := 40) C ha TM0 rfl ⟨by decide, by decide⟩ pl_X12_366 dX12_keepAct_90 (by omega) (by omega) rfl (fun w4 o5 s6 e7 => ?_)
        refine hr_aln C 0 dX12_keepAct_93 rfl rfl rfl ?_
        refine hr_ic C dX12_keepAct_94 rfl ?_
        refine hr_pI (lo := 0) (hi := 40) C ha TM0 rfl ⟨by decide, by decide⟩ pl_X12_369 dX12_keepAct_95 (by omega) (by omega) rfl (fun w8 o9 s10 e11 => ?_)
        exact hr_vret C hlocks hr dX12_keepAct_98 ⟨(fx_sm_tr (fx_sm_tr sm s6 (by decide)) s10 (by decide)), rfl, by rw [e11, if_neg (by omega)]; rw [e7, if_pos ⟨rfl, rfl⟩]; omega, by rw [e11, if_neg (by omega)]; rw [e7, if_pos ⟨rfl, rfl⟩]; omega, by rw [e11, if_pos ⟨rfl, rfl⟩]⟩
      · have c1 : (k : Int) < 15 := c1
        refine hr_aln C 0 dX12_keepAct_57 rfl rfl rfl ?_
        refine hr_gA (g := 30) C ha TM0 rfl (by decide) fl_X12_104 dX12_keepAct_58 rfl (fun a12 ha13 => ?_)
        refine hr_bi C dX12_keepAct_61 (by decide +kernel) rfl ?_
        refine hr_aln C 0 dX12_keepAct_63 rfl rfl rfl ?_
        refine hr_gI (lo := 0) (hi := 40) C ha TM0 rfl fl_X12_366 dX12_keepAct_64 rfl (fun b14 b15 => ?_)
        refine hr_mul C dX12_keepAct_67 rfl ?_
        refine hr_iln C 1 dX12_keepAct_68 rfl rfl rfl ?_
        refine hr_add C dX12_keepAct_69 rfl ?_
        refine hr_aln C 0 dX12_keepAct_70 rfl rfl rfl ?_
        refine hr_gA (g := 26) C ha TM0 rfl (by decide) fl_X12_92 dX12_keepAct_71 rfl (fun a16 ha17 => ?_)
        refine hr_iln C 1 dX12_keepAct_74 rfl rfl rfl ?_
        refine hr_ald C ha17 TMa_26 (by omega) (by omega) (by decide) dX12_keepAct_75 rfl (fun b18 b19 => ?_)
        simp only [rg] at b19
        refine hr_ast C ha13 TMa_30 (by omega) (by omega) (by decide) ⟨by omega, by omega⟩ (hpp (by decide) b18 (by show Int.toNat _ % 15 = Int.toNat _ % 15; omega)) dX12_keepAct_76 rfl (fun w20 o21 s22 e23 => ?_)
        refine hr_inc (lv' := [(1, zv (k + 1)), (0, .ref a)]) C 1 dX12_keepAct_77 rfl (by decide) rfl rfl ?_
        refine hr_goto C 51 dX12_keepAct_80 (by decide) ?_
        refine hr_pick (lv' := [(0, .ref a), (1, zv (k + 1))]) [1, 0] rfl ?_
        exact ih _ _ (by omega) o21 (by omega) (by omega) (fx_sm_tr sm s22 (by decide)) (by rw [e23, if_neg (by omega)]; omega) (by rw [e23, if_neg (by omega)]; omega)
  have loop0 : ∀ (q : Nat) (k : Int) (w : va_W), (600 - k).toNat < q → fx_wo (gsM, TM, cy, fun _ => True) ad w → 0 ≤ k → k ≤ 600 → fx_sm (gsM, TM, cy, fun _ => True) [(12, 49), (12, 50), (1000, 30)] ws w → vi w 0 49 = 40 → HW l E ad D cy (va_A ws s.heap.size) s.heap p e ({ frames := 0, cells := 0, slots := 0, locals := 0 }) s m ([.ref a]).toArray below meth c (MQ below (hQ ad D cy (fun _ ws rv ws1 => fx_sm (gsM, TM, cy, fun _ => True) [(12, 49), (12, 50), (1000, 30)] ws ws1 ∧ rv = none ∧ 1 ≤ vi ws1 0 49 ∧ vi ws1 0 49 ≤ 40 ∧ vi ws1 0 50 = 0) ([.ref a]) ws s.heap.size) ([.ref a]).toArray s 0 0 (va_A ws s.heap.size)) cX12_keepAct 2 yX12_keepAct.cls 11 [(0, .ref a), (1, zv k)] [] w := by
    intro q
    induction q with
    | zero => intro k w hq; omega
    | succ q ih =>
      intro k w hq how h0 h1 sm h2
      refine hr_iln C 1 dX12_keepAct_11 rfl rfl rfl ?_
      refine hr_si C dX12_keepAct_12 (by decide +kernel) rfl ?_
      refine hr_cmp C 39 dX12_keepAct_15 (by decide) ⟨by omega, by omega⟩ ⟨by omega, by omega⟩ rfl (fun c1 => ?_) (fun c1 => ?_)
      · have c1 : (600 : Int) ≤ k := c1
        refine hr_aln C 0 dX12_keepAct_39 rfl rfl rfl ?_
        refine hr_dup C dX12_keepAct_40 rfl rfl ?_
        refine hr_gI (lo := 0) (hi := 40) C ha TM0 rfl fl_X12_366 dX12_keepAct_41 rfl (fun b2 b3 => ?_)
        refine hr_ic C dX12_keepAct_44 rfl ?_
        refine hr_sub C dX12_keepAct_45 rfl ?_
        refine hr_pI (lo := 0) (hi := 40) C ha TM0 rfl ⟨by decide, by decide⟩ pl_X12_366 dX12_keepAct_46 (by omega) (by omega) rfl (fun w4 o5 s6 e7 => ?_)
        refine hr_ic C dX12_keepAct_49 rfl ?_
        refine hr_isn (lv' := [(1, zv (0)), (0, .ref a)]) C dX12_keepAct_50 rfl (by decide) rfl rfl ?_
        refine hr_pick (lv' := [(0, .ref a), (1, zv (0))]) [1, 0] rfl ?_
        exact loop1 _ _ _ (Nat.lt_succ_self _) o5 (by omega) (by omega) (fx_sm_tr sm s6 (by decide)) (by rw [e7, if_pos ⟨rfl, rfl⟩]; omega) (by rw [e7, if_pos ⟨rfl, rfl⟩]; omega)
      · have c1 : (k : Int) < 600 := c1
        refine hr_aln C 0 dX12_keepAct_18 rfl rfl rfl ?_
        refine hr_gA (g := 30) C ha TM0 rfl (by decide) fl_X12_104 dX12_keepAct_19 rfl (fun a8 ha9 => ?_)
        refine hr_iln C 1 dX12_keepAct_22 rfl rfl rfl ?_
        refine hr_aln C 0 dX12_keepAct_23 rfl rfl rfl ?_
        refine hr_gA (g := 30) C ha TM0 rfl (by decide) fl_X12_104 dX12_keepAct_24 rfl (fun a10 ha11 => ?_)
        refine hr_iln C 1 dX12_keepAct_27 rfl rfl rfl ?_
        refine hr_bi C dX12_keepAct_28 (by decide +kernel) rfl ?_
        refine hr_add C dX12_keepAct_30 rfl ?_
        refine hr_ald C ha11 TMa_30 (by omega) (by omega) (by decide) dX12_keepAct_31 rfl (fun b12 b13 => ?_)
        simp only [rg] at b13
        refine hr_ast C ha9 TMa_30 (by omega) (by omega) (by decide) ⟨by omega, by omega⟩ (hpp (by decide) b12 (by show Int.toNat _ % 15 = Int.toNat _ % 15; omega)) dX12_keepAct_32 rfl (fun w14 o15 s16 e17 => ?_)
        refine hr_inc (lv' := [(1, zv (k + 1)), (0, .ref a)]) C 1 dX12_keepAct_33 rfl (by decide) rfl rfl ?_
        refine hr_goto C 11 dX12_keepAct_36 (by decide) ?_
        refine hr_pick (lv' := [(0, .ref a), (1, zv (k + 1))]) [1, 0] rfl ?_
        exact ih _ _ (by omega) o15 (by omega) (by omega) (fx_sm_tr sm s16 (by decide)) (by rw [e17, if_neg (by omega)]; omega)
  refine hr_aln C 0 dX12_keepAct_0 rfl rfl rfl ?_
  refine hr_gI (lo := 0) (hi := 40) C ha TM0 rfl fl_X12_366 dX12_keepAct_1 rfl (fun b1 b2 => ?_)
  refine hr_bi C dX12_keepAct_4 (by decide +kernel) rfl ?_
  refine hr_cmp C 49 dX12_keepAct_6 (by decide) ⟨by omega, by omega⟩ ⟨by omega, by omega⟩ rfl (fun c3 => ?_) (fun c3 => ?_)
  · have c3 : ¬ (vi ws 0 49 : Int) = 40 := c3
    refine hr_ic C dX12_keepAct_49 rfl ?_
    refine hr_isn (lv' := [(1, zv (0)), (0, .ref a)]) C dX12_keepAct_50 rfl (by decide) rfl rfl ?_
    refine hr_pick (lv' := [(0, .ref a), (1, zv (0))]) [1, 0] rfl ?_
    exact loop1 _ _ _ (Nat.lt_succ_self _) hwo (by omega) (by omega) fx_sm_refl (by omega) (by omega)
  · have c3 : (vi ws 0 49 : Int) = 40 := c3
    refine hr_ic C dX12_keepAct_9 rfl ?_
    refine hr_isn (lv' := [(1, zv (0)), (0, .ref a)]) C dX12_keepAct_10 rfl (by decide) rfl rfl ?_
    refine hr_pick (lv' := [(0, .ref a), (1, zv (0))]) [1, 0] rfl ?_
    exact loop0 _ _ _ (Nat.lt_succ_self _) hwo (by omega) (by omega) fx_sm_refl (by omega)
set_option maxRecDepth 100000 in
set_option maxHeartbeats 4000000 in
theorem h_exchange {l : Launch} {E : (Nat → Prop) → State → Prop} {ad : List Nat} {D : va_G} {cy : Nat → ClassId} (h : fx_env E D classes (tys cy) nestW) (a : Nat) (ha : ad[0]? = some a) : hM l yX12_exchange cX12_exchange 3 none ({ frames := 0, cells := 0, slots := 0, locals := 0 }) E ad D cy (fun av ws => av = [.ref a] ∧ True) (fun _ ws rv ws1 => fx_sm (gsM, TM, cy, fun _ => True) [(1000, 26), (1000, 30)] ws ws1 ∧ rv = none) := by
  refine hM_of h (by decide) ?_
  intro av ws p e s m below meth c hwo hnd hpre hlocks hr C
  obtain ⟨rfl, hpre⟩ := hpre
  refine ⟨Nat.le_of_ble_eq_true rfl, ?_⟩
  refine hr_pick (lv' := [(0, .ref a)]) [0] rfl ?_
  have loop : ∀ (q : Nat) (k : Int) (w : va_W), (15 - k).toNat < q → fx_wo (gsM, TM, cy, fun _ => True) ad w → 0 ≤ k → k ≤ 15 → fx_sm (gsM, TM, cy, fun _ => True) [(1000, 26), (1000, 30)] ws w → HW l E ad D cy (va_A ws s.heap.size) s.heap p e ({ frames := 0, cells := 0, slots := 0, locals := 0 }) s m ([.ref a]).toArray below meth c (MQ below (hQ ad D cy (fun _ ws rv ws1 => fx_sm (gsM, TM, cy, fun _ => True) [(1000, 26), (1000, 30)] ws ws1 ∧ rv = none) ([.ref a]) ws s.heap.size) ([.ref a]).toArray s 0 0 (va_A ws s.heap.size)) cX12_exchange 3 yX12_exchange.cls 2 [(0, .ref a), (1, zv k)] [] w := by
    intro q
    induction q with
    | zero => intro k w hq; omega
    | succ q ih =>
      intro k w hq how h0 h1 sm
      refine hr_iln C 1 dX12_exchange_2 rfl rfl rfl ?_
      refine hr_bi C dX12_exchange_3 (by decide +kernel) rfl ?_
      refine hr_cmp C 56 dX12_exchange_5 (by decide) ⟨by omega, by omega⟩ ⟨by omega, by omega⟩ rfl (fun c1 => ?_) (fun c1 => ?_)
      · have c1 : (15 : Int) ≤ k := c1
        exact hr_vret C hlocks hr dX12_exchange_56 ⟨sm, rfl⟩
      · have c1 : (k : Int) < 15 := c1
        refine hr_aln C 0 dX12_exchange_8 rfl rfl rfl ?_
        refine hr_gA (g := 30) C ha TM0 rfl (by decide) fl_X12_104 dX12_exchange_9 rfl (fun a2 ha3 => ?_)
        refine hr_bi C dX12_exchange_12 (by decide +kernel) rfl ?_
        refine hr_aln C 0 dX12_exchange_14 rfl rfl rfl ?_
        refine hr_gI (lo := 0) (hi := 40) C ha TM0 rfl fl_X12_366 dX12_exchange_15 rfl (fun b4 b5 => ?_)
        refine hr_mul C dX12_exchange_18 rfl ?_
        refine hr_iln C 1 dX12_exchange_19 rfl rfl rfl ?_
        refine hr_add C dX12_exchange_20 rfl ?_
        refine hr_ald C ha3 TMa_30 (by omega) (by omega) (by decide) dX12_exchange_21 rfl (fun b6 b7 => ?_)
        simp only [rg] at b7
        refine hr_isn (lv' := [(2, zv (vi w 30 (Int.toNat ((15 * (vi w 0 49)) + k)))), (0, .ref a), (1, zv (k))]) C dX12_exchange_22 rfl (by decide) rfl rfl ?_
        refine hr_aln C 1 dX12_exchange_23 rfl rfl rfl ?_
        refine hr_gA (g := 30) C ha TM0 rfl (by decide) fl_X12_104 dX12_exchange_24 rfl (fun a8 ha9 => ?_)
        refine hr_bi C dX12_exchange_27 (by decide +kernel) rfl ?_
        refine hr_aln C 1 dX12_exchange_29 rfl rfl rfl ?_
        refine hr_gI (lo := 0) (hi := 40) C ha TM0 rfl fl_X12_366 dX12_exchange_30 rfl (fun b10 b11 => ?_)
        refine hr_mul C dX12_exchange_33 rfl ?_
        refine hr_iln C 2 dX12_exchange_34 rfl rfl rfl ?_
        refine hr_add C dX12_exchange_35 rfl ?_
        refine hr_aln C 1 dX12_exchange_36 rfl rfl rfl ?_
        refine hr_gA (g := 26) C ha TM0 rfl (by decide) fl_X12_92 dX12_exchange_37 rfl (fun a12 ha13 => ?_)
        refine hr_iln C 2 dX12_exchange_40 rfl rfl rfl ?_
        refine hr_ald C ha13 TMa_26 (by omega) (by omega) (by decide) dX12_exchange_41 rfl (fun b14 b15 => ?_)
        simp only [rg] at b15
        refine hr_ast C ha9 TMa_30 (by omega) (by omega) (by decide) ⟨by omega, by omega⟩ (hpp (by decide) b14 (by show Int.toNat _ % 15 = Int.toNat _ % 15; omega)) dX12_exchange_42 rfl (fun w16 o17 s18 e19 => ?_)
        refine hr_aln C 1 dX12_exchange_43 rfl rfl rfl ?_
        refine hr_gA (g := 26) C ha TM0 rfl (by decide) fl_X12_92 dX12_exchange_44 rfl (fun a20 ha21 => ?_)
        refine hr_iln C 2 dX12_exchange_47 rfl rfl rfl ?_
        refine hr_iln C 0 dX12_exchange_48 rfl rfl rfl ?_
        refine hr_ast C ha21 TMa_26 (by omega) (by omega) (by decide) ⟨by omega, by omega⟩ (hpp (by decide) b6 (by show Int.toNat _ % 15 = Int.toNat _ % 15; omega)) dX12_exchange_49 rfl (fun w22 o23 s24 e25 => ?_)
        refine hr_inc (lv' := [(1, zv (k + 1)), (2, zv (vi w 30 (Int.toNat ((15 * (vi w 0 49)) + k)))), (0, .ref a)]) C 2 dX12_exchange_50 rfl (by decide) rfl rfl ?_
        refine hr_goto C 2 dX12_exchange_53 (by decide) ?_
        refine hr_pick (lv' := [(0, .ref a), (1, zv (k + 1))]) [2, 0] rfl ?_
        exact ih _ _ (by omega) o23 (by omega) (by omega) (fx_sm_tr (fx_sm_tr sm s18 (by decide)) s24 (by decide))
  refine hr_ic C dX12_exchange_0 rfl ?_
  refine hr_isn (lv' := [(1, zv (0)), (0, .ref a)]) C dX12_exchange_1 rfl (by decide) rfl rfl ?_
  refine hr_pick (lv' := [(0, .ref a), (1, zv (0))]) [1, 0] rfl ?_
  exact loop _ _ _ (Nat.lt_succ_self _) hwo (by omega) (by omega) fx_sm_refl
set_option maxRecDepth 100000 in
set_option maxHeartbeats 4000000 in
theorem h_undo {l : Launch} {E : (Nat → Prop) → State → Prop} {ad : List Nat} {D : va_G} {cy : Nat → ClassId} (h : fx_env E D classes (tys cy) nestW) (a : Nat) (ha : ad[0]? = some a) : hM l yX12_undo cX12_undo 1 (some .boolean) ({ frames := 1, cells := 0, slots := 0, locals := 22 }) E ad D cy (fun av ws => av = [.ref a] ∧ vi ws 0 49 + vi ws 0 50 ≤ 40) (fun _ ws rv ws1 => fx_sm (gsM, TM, cy, fun _ => True) [(12, 49), (12, 50), (1000, 26), (1000, 30)] ws ws1 ∧ (∃ z, rv = some (zv z) ∧ (z = 0 ∨ z = 1)) ∧ True ∧ vi ws1 0 49 + vi ws1 0 50 ≤ 40) := by
  refine hM_of h (by decide) ?_
  intro av ws p e s m below meth c hwo hnd hpre hlocks hr C
  obtain ⟨rfl, hpre⟩ := hpre
  refine ⟨Nat.le_of_ble_eq_true rfl, ?_⟩
  refine hr_pick (lv' := [(0, .ref a)]) [0] rfl ?_
  refine hr_aln C 0 dX12_undo_0 rfl rfl rfl ?_
  refine hr_gI (lo := 0) (hi := 40) C ha TM0 rfl fl_X12_366 dX12_undo_1 rfl (fun b1 b2 => ?_)
  refine hr_if C 9 dX12_undo_4 (by decide) ⟨by omega, by omega⟩ rfl (fun c3 => ?_) (fun c3 => ?_)
  · have c3 : ¬ (vi ws 0 49 : Int) = 0 := c3
    refine hr_aln C 0 dX12_undo_9 rfl rfl rfl ?_
    refine hr_dup C dX12_undo_10 rfl rfl ?_
    refine hr_gI (lo := 0) (hi := 40) C ha TM0 rfl fl_X12_366 dX12_undo_11 rfl (fun b4 b5 => ?_)
    refine hr_ic C dX12_undo_14 rfl ?_
    refine hr_sub C dX12_undo_15 rfl ?_
    refine hr_pI (lo := 0) (hi := 40) C ha TM0 rfl ⟨by decide, by decide⟩ pl_X12_366 dX12_undo_16 (by omega) (by omega) rfl (fun w6 o7 s8 e9 => ?_)
    refine hr_aln C 0 dX12_undo_19 rfl rfl rfl ?_
    refine hr_dup C dX12_undo_20 rfl rfl ?_
    refine hr_gI (lo := 0) (hi := 40) C ha TM0 rfl fl_X12_369 dX12_undo_21 rfl (fun b10 b11 => ?_)
    have q12 : vi w6 0 50 = vi ws 0 50 := by rw [e9, if_neg (by omega)]
    rw [q12] at b10 b11 ⊢
    refine hr_ic C dX12_undo_24 rfl ?_
    refine hr_add C dX12_undo_25 rfl ?_
    refine hr_pI (lo := 0) (hi := 40) C ha TM0 rfl ⟨by decide, by decide⟩ pl_X12_369 dX12_undo_26 (by omega) (by omega) rfl (fun w13 o14 s15 e16 => ?_)
    refine hr_aln C 0 dX12_undo_29 rfl rfl rfl ?_
    refine hr_cV (As := []) (rest := []) C (h_exchange h a ha) ⟨by decide, by decide⟩ iV_X12_exchange g_X12_428 TM0 ha dX12_undo_30 rfl rfl (Nat.le_of_ble_eq_true rfl) rfl ⟨rfl, trivial⟩ (fun w17 rv o18 q19 => ?_)
    obtain ⟨s20, rfl⟩ := q19
    refine hr_ic C dX12_undo_33 rfl ?_
    have r1 : vi w17 0 49 = (vi ws 0 49) - 1 := by rw [sm_f o14 o18 s20 (by decide)]; rw [e16, if_neg (by omega)]; rw [e9, if_pos ⟨rfl, rfl⟩]
    have r2 : vi w17 0 50 = (vi ws 0 50) + 1 := by rw [sm_f o14 o18 s20 (by decide)]; rw [e16, if_pos ⟨rfl, rfl⟩]
    exact hr_zret C hlocks hr (Or.inr rfl) dX12_undo_34 ⟨(fx_sm_tr (fx_sm_tr (fx_sm_tr fx_sm_refl s8 (by decide)) s15 (by decide)) s20 (by decide)), ⟨_, rfl, Or.inr rfl⟩, trivial, by omega⟩
  · have c3 : (vi ws 0 49 : Int) = 0 := c3
    refine hr_ic C dX12_undo_7 rfl ?_
    have r1 : vi ws 0 49 = vi ws 0 49 := by rfl
    have r2 : vi ws 0 50 = vi ws 0 50 := by rfl
    exact hr_zret C hlocks hr (Or.inl rfl) dX12_undo_8 ⟨fx_sm_refl, ⟨_, rfl, Or.inl rfl⟩, trivial, by omega⟩
set_option maxRecDepth 100000 in
set_option maxHeartbeats 4000000 in
theorem h_redo {l : Launch} {E : (Nat → Prop) → State → Prop} {ad : List Nat} {D : va_G} {cy : Nat → ClassId} (h : fx_env E D classes (tys cy) nestW) (a : Nat) (ha : ad[0]? = some a) : hM l yX12_redo cX12_redo 1 (some .boolean) ({ frames := 1, cells := 0, slots := 0, locals := 22 }) E ad D cy (fun av ws => av = [.ref a] ∧ vi ws 0 49 + vi ws 0 50 ≤ 40) (fun _ ws rv ws1 => fx_sm (gsM, TM, cy, fun _ => True) [(12, 49), (12, 50), (1000, 26), (1000, 30)] ws ws1 ∧ (∃ z, rv = some (zv z) ∧ (z = 0 ∨ z = 1)) ∧ True ∧ vi ws1 0 49 + vi ws1 0 50 ≤ 40) := by
  refine hM_of h (by decide) ?_
  intro av ws p e s m below meth c hwo hnd hpre hlocks hr C
  obtain ⟨rfl, hpre⟩ := hpre
  refine ⟨Nat.le_of_ble_eq_true rfl, ?_⟩
  refine hr_pick (lv' := [(0, .ref a)]) [0] rfl ?_
  refine hr_aln C 0 dX12_redo_0 rfl rfl rfl ?_
  refine hr_gI (lo := 0) (hi := 40) C ha TM0 rfl fl_X12_369 dX12_redo_1 rfl (fun b1 b2 => ?_)
  refine hr_if C 9 dX12_redo_4 (by decide) ⟨by omega, by omega⟩ rfl (fun c3 => ?_) (fun c3 => ?_)
  · have c3 : ¬ (vi ws 0 50 : Int) = 0 := c3
    refine hr_aln C 0 dX12_redo_9 rfl rfl rfl ?_
    refine hr_cV (As := []) (rest := []) C (h_exchange h a ha) ⟨by decide, by decide⟩ iV_X12_exchange g_X12_428 TM0 ha dX12_redo_10 rfl rfl (Nat.le_of_ble_eq_true rfl) rfl ⟨rfl, trivial⟩ (fun w4 rv o5 q6 => ?_)
    obtain ⟨s7, rfl⟩ := q6
    refine hr_aln C 0 dX12_redo_13 rfl rfl rfl ?_
    refine hr_dup C dX12_redo_14 rfl rfl ?_
    refine hr_gI (lo := 0) (hi := 40) C ha TM0 rfl fl_X12_366 dX12_redo_15 rfl (fun b8 b9 => ?_)
    have q10 : vi w4 0 49 = vi ws 0 49 := by rw [sm_f hwo o5 s7 (by decide)]
    rw [q10] at b8 b9 ⊢
    refine hr_ic C dX12_redo_18 rfl ?_
    refine hr_add C dX12_redo_19 rfl ?_
    refine hr_pI (lo := 0) (hi := 40) C ha TM0 rfl ⟨by decide, by decide⟩ pl_X12_366 dX12_redo_20 (by omega) (by omega) rfl (fun w11 o12 s13 e14 => ?_)
    refine hr_aln C 0 dX12_redo_23 rfl rfl rfl ?_
    refine hr_dup C dX12_redo_24 rfl rfl ?_
    refine hr_gI (lo := 0) (hi := 40) C ha TM0 rfl fl_X12_369 dX12_redo_25 rfl (fun b15 b16 => ?_)
    have q17 : vi w11 0 50 = vi ws 0 50 := by rw [e14, if_neg (by omega)]; rw [sm_f hwo o5 s7 (by decide)]
    rw [q17] at b15 b16 ⊢
    refine hr_ic C dX12_redo_28 rfl ?_
    refine hr_sub C dX12_redo_29 rfl ?_
    refine hr_pI (lo := 0) (hi := 40) C ha TM0 rfl ⟨by decide, by decide⟩ pl_X12_369 dX12_redo_30 (by omega) (by omega) rfl (fun w18 o19 s20 e21 => ?_)
    refine hr_ic C dX12_redo_33 rfl ?_
    have r1 : vi w18 0 49 = (vi ws 0 49) + 1 := by rw [e21, if_neg (by omega)]; rw [e14, if_pos ⟨rfl, rfl⟩]
    have r2 : vi w18 0 50 = (vi ws 0 50) - 1 := by rw [e21, if_pos ⟨rfl, rfl⟩]
    exact hr_zret C hlocks hr (Or.inr rfl) dX12_redo_34 ⟨(fx_sm_tr (fx_sm_tr (fx_sm_tr fx_sm_refl s7 (by decide)) s13 (by decide)) s20 (by decide)), ⟨_, rfl, Or.inr rfl⟩, trivial, by omega⟩
  · have c3 : (vi ws 0 50 : Int) = 0 := c3
    refine hr_ic C dX12_redo_7 rfl ?_
    have r1 : vi ws 0 49 = vi ws 0 49 := by rfl
    have r2 : vi ws 0 50 = vi ws 0 50 := by rfl
    exact hr_zret C hlocks hr (Or.inl rfl) dX12_redo_8 ⟨fx_sm_refl, ⟨_, rfl, Or.inl rfl⟩, trivial, by omega⟩
