theorem m_267 : Cond.methodLink RX12 161 yX12_clearBank ∈ wsL_law := in_wsL_law_r12 _ (List.mem_of_getElem? (i := 3) rfl)
theorem m_268 : Cond.instanceMethod yX12_clearBank ∈ wsL_law := in_wsL_law_r12 _ (List.mem_of_getElem? (i := 4) rfl)
theorem m_269 : Cond.selects RX12 yX12_clearBank yX12_clearBank ∈ wsL_law := in_wsL_law_r12 _ (List.mem_of_getElem? (i := 5) rfl)
theorem m_270 : Cond.code yX12_clearBank cX12_clearBank 1 none ∈ wsL_law := in_wsL_law_r12 _ (List.mem_of_getElem? (i := 6) rfl)
theorem m_273 : Cond.methodLink RX12 164 yX12_startAnew ∈ wsL_law := in_wsL_law_r12 _ (List.mem_of_getElem? (i := 9) rfl)
theorem m_274 : Cond.instanceMethod yX12_startAnew ∈ wsL_law := in_wsL_law_r12 _ (List.mem_of_getElem? (i := 10) rfl)
theorem m_275 : Cond.selects RX12 yX12_startAnew yX12_startAnew ∈ wsL_law := in_wsL_law_r12 _ (List.mem_of_getElem? (i := 11) rfl)
theorem m_276 : Cond.code yX12_startAnew cX12_startAnew 2 none ∈ wsL_law := in_wsL_law_r12 _ (List.mem_of_getElem? (i := 12) rfl)
theorem m_655 : Cond.methodLink RX12 277 yX12_readLine ∈ wsL_law := in_wsL_law_r28 _ (List.mem_of_getElem? (i := 7) rfl)
theorem m_656 : Cond.instanceMethod yX12_readLine ∈ wsL_law := in_wsL_law_r28 _ (List.mem_of_getElem? (i := 8) rfl)
theorem m_657 : Cond.selects RX12 yX12_readLine yX12_readLine ∈ wsL_law := in_wsL_law_r28 _ (List.mem_of_getElem? (i := 9) rfl)
theorem m_658 : Cond.code yX12_readLine cX12_readLine 4 none ∈ wsL_law := in_wsL_law_r28 _ (List.mem_of_getElem? (i := 10) rfl)
theorem pl_X12_274 : fx_pl wsL_law nestW classes RX12 (274, 12, 34, 0) := ⟨RX12, TX12, 74, tyX12, tyX12 34, rfl, by decide, inlX12, tyX12_ok, nmX12, rfl, tyX12_ok 34 (by decide), rfl, Or.inl m_277⟩
theorem pl_X12_265 : fx_pl wsL_law nestW classes RX12 (265, 12, 35, 0) := ⟨RX12, TX12, 74, tyX12, tyX12 35, rfl, by decide, inlX12, tyX12_ok, nmX12, rfl, tyX12_ok 35 (by decide), rfl, Or.inl m_271⟩
theorem pl_X12_167 : fx_pl wsL_law nestW classes RX12 (167, 12, 3, 0) := ⟨RX12, TX12, 74, tyX12, tyX12 3, rfl, by decide, inlX12, tyX12_ok, nmX12, rfl, tyX12_ok 3 (by decide), rfl, Or.inl m_610⟩
theorem iV_X12_startAnew : yX12_startAnew.cls = RX12 ∧ yX12_startAnew.cls ≠ "java/lang/invoke/MethodHandle" ∧ yX12_startAnew.cls ≠ "java/lang/invoke/VarHandle" ∧ (parseMethodDescriptor yX12_startAnew.desc).map (fun d => d.parameters.length) = some 0 := by decide +kernel
theorem iV_X12_readLine : yX12_readLine.cls = RX12 ∧ yX12_readLine.cls ≠ "java/lang/invoke/MethodHandle" ∧ yX12_readLine.cls ≠ "java/lang/invoke/VarHandle" ∧ (parseMethodDescriptor yX12_readLine.desc).map (fun d => d.parameters.length) = some 0 := by decide +kernel
theorem iV_X12_clearBank : yX12_clearBank.cls = RX12 ∧ yX12_clearBank.cls ≠ "java/lang/invoke/MethodHandle" ∧ yX12_clearBank.cls ≠ "java/lang/invoke/VarHandle" ∧ (parseMethodDescriptor yX12_clearBank.desc).map (fun d => d.parameters.length) = some 0 := by decide +kernel
theorem g_X12_164 : GoodIn wsL_law (wsV RX12 164 RX12 yX12_startAnew (.code yX12_startAnew cX12_startAnew 2 none :: wsL_law)) := gdV m_273 m_274 m_275 m_5 m_276
theorem g_X12_277 : GoodIn wsL_law (wsV RX12 277 RX12 yX12_readLine (.code yX12_readLine cX12_readLine 4 none :: wsL_law)) := gdV m_655 m_656 m_657 m_5 m_658
theorem g_X12_161 : GoodIn wsL_law (wsV RX12 161 RX12 yX12_clearBank (.code yX12_clearBank cX12_clearBank 1 none :: wsL_law)) := gdV m_267 m_268 m_269 m_5 m_270
theorem dX12_clearBank_0 : decode cX12_clearBank 0 = .ok (.aload_n 0, 1) := by decide +kernel
theorem dX12_clearBank_1 : decode cX12_clearBank 1 = .ok (.getfield 20, 3) := by decide +kernel
theorem dX12_clearBank_4 : decode cX12_clearBank 4 = .ok (.aload_n 0, 1) := by decide +kernel
theorem dX12_clearBank_5 : decode cX12_clearBank 5 = .ok (.getfield 265, 3) := by decide +kernel
theorem dX12_clearBank_8 : decode cX12_clearBank 8 = .ok (.iconst 0, 1) := by decide +kernel
theorem dX12_clearBank_9 : decode cX12_clearBank 9 = .ok (.iastore, 1) := by decide +kernel
theorem dX12_clearBank_10 : decode cX12_clearBank 10 = .ok (.aload_n 0, 1) := by decide +kernel
theorem dX12_clearBank_11 : decode cX12_clearBank 11 = .ok (.getfield 24, 3) := by decide +kernel
theorem dX12_clearBank_14 : decode cX12_clearBank 14 = .ok (.aload_n 0, 1) := by decide +kernel
theorem dX12_clearBank_15 : decode cX12_clearBank 15 = .ok (.getfield 265, 3) := by decide +kernel
theorem dX12_clearBank_18 : decode cX12_clearBank 18 = .ok (.iconst 0, 1) := by decide +kernel
theorem dX12_clearBank_19 : decode cX12_clearBank 19 = .ok (.iastore, 1) := by decide +kernel
theorem dX12_clearBank_20 : decode cX12_clearBank 20 = .ok (.aload_n 0, 1) := by decide +kernel
theorem dX12_clearBank_21 : decode cX12_clearBank 21 = .ok (.getfield 27, 3) := by decide +kernel
theorem dX12_clearBank_24 : decode cX12_clearBank 24 = .ok (.aload_n 0, 1) := by decide +kernel
theorem dX12_clearBank_25 : decode cX12_clearBank 25 = .ok (.getfield 265, 3) := by decide +kernel
theorem dX12_clearBank_28 : decode cX12_clearBank 28 = .ok (.iconst 0, 1) := by decide +kernel
theorem dX12_clearBank_29 : decode cX12_clearBank 29 = .ok (.iastore, 1) := by decide +kernel
theorem dX12_clearBank_30 : decode cX12_clearBank 30 = .ok (.aload_n 0, 1) := by decide +kernel
theorem dX12_clearBank_31 : decode cX12_clearBank 31 = .ok (.getfield 30, 3) := by decide +kernel
theorem dX12_clearBank_34 : decode cX12_clearBank 34 = .ok (.aload_n 0, 1) := by decide +kernel
theorem dX12_clearBank_35 : decode cX12_clearBank 35 = .ok (.getfield 265, 3) := by decide +kernel
theorem dX12_clearBank_38 : decode cX12_clearBank 38 = .ok (.iconst 0, 1) := by decide +kernel
theorem dX12_clearBank_39 : decode cX12_clearBank 39 = .ok (.iastore, 1) := by decide +kernel
theorem dX12_clearBank_40 : decode cX12_clearBank 40 = .ok (.aload_n 0, 1) := by decide +kernel
theorem dX12_clearBank_41 : decode cX12_clearBank 41 = .ok (.getfield 33, 3) := by decide +kernel
theorem dX12_clearBank_44 : decode cX12_clearBank 44 = .ok (.aload_n 0, 1) := by decide +kernel
theorem dX12_clearBank_45 : decode cX12_clearBank 45 = .ok (.getfield 265, 3) := by decide +kernel
theorem dX12_clearBank_48 : decode cX12_clearBank 48 = .ok (.iconst 0, 1) := by decide +kernel
theorem dX12_clearBank_49 : decode cX12_clearBank 49 = .ok (.iastore, 1) := by decide +kernel
theorem dX12_clearBank_50 : decode cX12_clearBank 50 = .ok (.aload_n 0, 1) := by decide +kernel
theorem dX12_clearBank_51 : decode cX12_clearBank 51 = .ok (.getfield 36, 3) := by decide +kernel
theorem dX12_clearBank_54 : decode cX12_clearBank 54 = .ok (.aload_n 0, 1) := by decide +kernel
theorem dX12_clearBank_55 : decode cX12_clearBank 55 = .ok (.getfield 265, 3) := by decide +kernel
theorem dX12_clearBank_58 : decode cX12_clearBank 58 = .ok (.iconst 0, 1) := by decide +kernel
theorem dX12_clearBank_59 : decode cX12_clearBank 59 = .ok (.iastore, 1) := by decide +kernel
theorem dX12_clearBank_60 : decode cX12_clearBank 60 = .ok (.aload_n 0, 1) := by decide +kernel
theorem dX12_clearBank_61 : decode cX12_clearBank 61 = .ok (.getfield 63, 3) := by decide +kernel
theorem dX12_clearBank_64 : decode cX12_clearBank 64 = .ok (.aload_n 0, 1) := by decide +kernel
theorem dX12_clearBank_65 : decode cX12_clearBank 65 = .ok (.getfield 265, 3) := by decide +kernel
theorem dX12_clearBank_68 : decode cX12_clearBank 68 = .ok (.iconst 0, 1) := by decide +kernel
theorem dX12_clearBank_69 : decode cX12_clearBank 69 = .ok (.bastore, 1) := by decide +kernel
theorem dX12_clearBank_70 : decode cX12_clearBank 70 = .ok (.aload_n 0, 1) := by decide +kernel
theorem dX12_clearBank_71 : decode cX12_clearBank 71 = .ok (.getfield 67, 3) := by decide +kernel
theorem dX12_clearBank_74 : decode cX12_clearBank 74 = .ok (.aload_n 0, 1) := by decide +kernel
theorem dX12_clearBank_75 : decode cX12_clearBank 75 = .ok (.getfield 265, 3) := by decide +kernel
theorem dX12_clearBank_78 : decode cX12_clearBank 78 = .ok (.iconst 0, 1) := by decide +kernel
theorem dX12_clearBank_79 : decode cX12_clearBank 79 = .ok (.bastore, 1) := by decide +kernel
theorem dX12_clearBank_80 : decode cX12_clearBank 80 = .ok (.aload_n 0, 1) := by decide +kernel
theorem dX12_clearBank_81 : decode cX12_clearBank 81 = .ok (.getfield 70, 3) := by decide +kernel
theorem dX12_clearBank_84 : decode cX12_clearBank 84 = .ok (.aload_n 0, 1) := by decide +kernel
theorem dX12_clearBank_85 : decode cX12_clearBank 85 = .ok (.getfield 265, 3) := by decide +kernel
theorem dX12_clearBank_88 : decode cX12_clearBank 88 = .ok (.iconst 0, 1) := by decide +kernel
theorem dX12_clearBank_89 : decode cX12_clearBank 89 = .ok (.bastore, 1) := by decide +kernel
theorem dX12_clearBank_90 : decode cX12_clearBank 90 = .ok (.aload_n 0, 1) := by decide +kernel
theorem dX12_clearBank_91 : decode cX12_clearBank 91 = .ok (.sipush 560, 3) := by decide +kernel
theorem dX12_clearBank_94 : decode cX12_clearBank 94 = .ok (.aload_n 0, 1) := by decide +kernel
theorem dX12_clearBank_95 : decode cX12_clearBank 95 = .ok (.getfield 265, 3) := by decide +kernel
theorem dX12_clearBank_98 : decode cX12_clearBank 98 = .ok (.imul, 1) := by decide +kernel
theorem dX12_clearBank_99 : decode cX12_clearBank 99 = .ok (.putfield 268, 3) := by decide +kernel
theorem dX12_clearBank_102 : decode cX12_clearBank 102 = .ok (.return_, 1) := by decide +kernel
theorem dX12_table_95 : decode cX12_table 95 = .ok (.aload_n 0, 1) := by decide +kernel
theorem dX12_table_96 : decode cX12_table 96 = .ok (.invokevirtual 241, 3) := by decide +kernel
theorem dX12_table_99 : decode cX12_table 99 = .ok (.ifCond .ne 5, 3) := by decide +kernel
theorem dX12_table_104 : decode cX12_table 104 = .ok (.aload_n 0, 1) := by decide +kernel
theorem dX12_table_105 : decode cX12_table 105 = .ok (.aload_n 0, 1) := by decide +kernel
theorem dX12_table_106 : decode cX12_table 106 = .ok (.getfield 265, 3) := by decide +kernel
theorem dX12_table_109 : decode cX12_table 109 = .ok (.putfield 274, 3) := by decide +kernel
theorem dX12_table_112 : decode cX12_table 112 = .ok (.aload_n 0, 1) := by decide +kernel
theorem dX12_table_113 : decode cX12_table 113 = .ok (.invokevirtual 164, 3) := by decide +kernel
theorem dX12_table_116 : decode cX12_table 116 = .ok (.aload_n 0, 1) := by decide +kernel
theorem dX12_table_117 : decode cX12_table 117 = .ok (.getfield 27, 3) := by decide +kernel
theorem dX12_table_120 : decode cX12_table 120 = .ok (.aload_n 0, 1) := by decide +kernel
theorem dX12_table_121 : decode cX12_table 121 = .ok (.getfield 274, 3) := by decide +kernel
theorem dX12_table_124 : decode cX12_table 124 = .ok (.iaload, 1) := by decide +kernel
theorem dX12_table_125 : decode cX12_table 125 = .ok (.ireturn, 1) := by decide +kernel
theorem dX12_table_102 : decode cX12_table 102 = .ok (.iconst (-1), 1) := by decide +kernel
theorem dX12_table_103 : decode cX12_table 103 = .ok (.ireturn, 1) := by decide +kernel
theorem dX12_table_74 : decode cX12_table 74 = .ok (.aload_n 0, 1) := by decide +kernel
theorem dX12_table_75 : decode cX12_table 75 = .ok (.invokevirtual 241, 3) := by decide +kernel
theorem dX12_table_78 : decode cX12_table 78 = .ok (.ifCond .eq 17, 3) := by decide +kernel
theorem dX12_table_81 : decode cX12_table 81 = .ok (.aload_n 0, 1) := by decide +kernel
theorem dX12_table_82 : decode cX12_table 82 = .ok (.getfield 213, 3) := by decide +kernel
theorem dX12_table_85 : decode cX12_table 85 = .ok (.ifCond .eq 10, 3) := by decide +kernel
theorem dX12_table_88 : decode cX12_table 88 = .ok (.aload_n 0, 1) := by decide +kernel
theorem dX12_table_89 : decode cX12_table 89 = .ok (.invokevirtual 277, 3) := by decide +kernel
theorem dX12_table_92 : decode cX12_table 92 = .ok (.goto (-18), 3) := by decide +kernel
theorem dX12_table_46 : decode cX12_table 46 = .ok (.aload_n 0, 1) := by decide +kernel
theorem dX12_table_47 : decode cX12_table 47 = .ok (.iconst 0, 1) := by decide +kernel
theorem dX12_table_48 : decode cX12_table 48 = .ok (.putfield 271, 3) := by decide +kernel
theorem dX12_table_51 : decode cX12_table 51 = .ok (.aload_n 0, 1) := by decide +kernel
theorem dX12_table_52 : decode cX12_table 52 = .ok (.iconst 0, 1) := by decide +kernel
theorem dX12_table_53 : decode cX12_table 53 = .ok (.putfield 203, 3) := by decide +kernel
theorem dX12_table_56 : decode cX12_table 56 = .ok (.aload_n 0, 1) := by decide +kernel
theorem dX12_table_57 : decode cX12_table 57 = .ok (.iconst 1, 1) := by decide +kernel
theorem dX12_table_58 : decode cX12_table 58 = .ok (.aload_n 0, 1) := by decide +kernel
theorem dX12_table_59 : decode cX12_table 59 = .ok (.getfield 274, 3) := by decide +kernel
theorem dX12_table_62 : decode cX12_table 62 = .ok (.isub, 1) := by decide +kernel
theorem dX12_table_63 : decode cX12_table 63 = .ok (.putfield 265, 3) := by decide +kernel
theorem dX12_table_66 : decode cX12_table 66 = .ok (.aload_n 0, 1) := by decide +kernel
theorem dX12_table_67 : decode cX12_table 67 = .ok (.invokevirtual 161, 3) := by decide +kernel
theorem dX12_table_70 : decode cX12_table 70 = .ok (.aload_n 0, 1) := by decide +kernel
theorem dX12_table_71 : decode cX12_table 71 = .ok (.invokevirtual 245, 3) := by decide +kernel
theorem dX12_table_20 : decode cX12_table 20 = .ok (.iload_n 1, 1) := by decide +kernel
theorem dX12_table_21 : decode cX12_table 21 = .ok (.aload_n 0, 1) := by decide +kernel
theorem dX12_table_22 : decode cX12_table 22 = .ok (.getfield 167, 3) := by decide +kernel
theorem dX12_table_25 : decode cX12_table 25 = .ok (.if_icmp .ge 21, 3) := by decide +kernel
theorem dX12_table_28 : decode cX12_table 28 = .ok (.aload_n 0, 1) := by decide +kernel
theorem dX12_table_29 : decode cX12_table 29 = .ok (.getfield 13, 3) := by decide +kernel
theorem dX12_table_32 : decode cX12_table 32 = .ok (.iload_n 1, 1) := by decide +kernel
theorem dX12_table_33 : decode cX12_table 33 = .ok (.aload_n 0, 1) := by decide +kernel
theorem dX12_table_34 : decode cX12_table 34 = .ok (.getfield 7, 3) := by decide +kernel
theorem dX12_table_37 : decode cX12_table 37 = .ok (.iload_n 1, 1) := by decide +kernel
theorem dX12_table_38 : decode cX12_table 38 = .ok (.baload, 1) := by decide +kernel
theorem dX12_table_39 : decode cX12_table 39 = .ok (.bastore, 1) := by decide +kernel
theorem dX12_table_40 : decode cX12_table 40 = .ok (.iinc 1 1, 3) := by decide +kernel
theorem dX12_table_43 : decode cX12_table 43 = .ok (.goto (-23), 3) := by decide +kernel
theorem dX12_table_0 : decode cX12_table 0 = .ok (.aload_n 0, 1) := by decide +kernel
theorem dX12_table_1 : decode cX12_table 1 = .ok (.iconst 0, 1) := by decide +kernel
theorem dX12_table_2 : decode cX12_table 2 = .ok (.putfield 170, 3) := by decide +kernel
theorem dX12_table_5 : decode cX12_table 5 = .ok (.aload_n 0, 1) := by decide +kernel
theorem dX12_table_6 : decode cX12_table 6 = .ok (.iconst (-1), 1) := by decide +kernel
theorem dX12_table_7 : decode cX12_table 7 = .ok (.putfield 16, 3) := by decide +kernel
theorem dX12_table_10 : decode cX12_table 10 = .ok (.aload_n 0, 1) := by decide +kernel
theorem dX12_table_11 : decode cX12_table 11 = .ok (.aload_n 0, 1) := by decide +kernel
theorem dX12_table_12 : decode cX12_table 12 = .ok (.getfield 271, 3) := by decide +kernel
theorem dX12_table_15 : decode cX12_table 15 = .ok (.putfield 167, 3) := by decide +kernel
theorem dX12_table_18 : decode cX12_table 18 = .ok (.iconst 0, 1) := by decide +kernel
theorem dX12_table_19 : decode cX12_table 19 = .ok (.istore_n 1, 1) := by decide +kernel
theorem el_z {cy : Nat → ClassId} {ad : List Nat} {w : va_W} {r fi g n j : Nat} {lo hi : Int} (hw : fx_wo (gsM, TM, cy, fun _ => True) ad w) (ha : ad[0]? = some r) (hf : tsM[fi]? = some (.inr (.inr (g + 1)))) (hg : g < 10000) (hT : TM[g]? = some (.inr (3, n, [.inl (lo, hi)]))) (hj : j < n) : lo ≤ vi w g j ∧ vi w g j ≤ hi := by
  obtain ⟨vs, h1, -, h3, -⟩ := tm_obj hw ha TM0
  obtain ⟨v, v1, k, b, v2, v3, rfl⟩ := h3 fi _ hf
  have hk : k = g := by
    rcases v3 with ⟨_, v3⟩ | ⟨v3, _⟩
    · exact tm_gs v3
    · omega
  subst hk
  obtain ⟨x, g1, ⟨f, rfl⟩, g3, -⟩ := tm_arr hw v2 hT
  obtain ⟨y, y1, y2, y3⟩ := g3 j (.inl (lo, hi)) hj (by rw [show j % ([(.inl (lo, hi) : fx_T)]).length = 0 from Nat.mod_one j]; rfl)
  cases y1
  rw [vi_a g1]
  exact ⟨y2, y3⟩
def imRg (ws : va_W) : Prop := ∀ b : Nat, b < 2 → (vi ws 16 b ≤ vi ws 15 b ∨ 560 * (b : Int) ≤ vi ws 15 b) ∧ vi ws 16 b ≤ 560 * (b : Int) + 560
theorem TI_out {ws w : va_W} {R : Nat} (hR : R < 2) (h : TI ws w R) (b5 : ∀ j, j < 2 → vi ws 5 j ≤ 5) (b13 : ∀ j, j < 10 → vi ws 13 j ≤ 8) (b16 : ∀ j, j < 2 → 0 ≤ vi ws 16 j ∧ 0 ≤ vi ws 15 j) (s1 : imSW ws) (s2 : imWF ws) (s3 : imRg ws) : imSW w ∧ imWF w ∧ imRg w := by
  obtain ⟨⟨h1, h2⟩, h3, h4, h5, h6, h7, h8, h9, h10⟩ := h
  refine ⟨fun b s k hb hs hk => ?_, fun b hb => ?_, fun b hb => ?_⟩
  · by_cases e : b = R
    · subst e
      exact h6 s k hs hk
    · obtain ⟨a3, a5, -, -⟩ := h3 b e
      have hb5 := b5 b hb
      rw [a5] at hs
      have e13 := h4 (5 * b + s) (by omega)
      rw [e13] at hk
      have hb13 := b13 (5 * b + s) (by omega)
      rw [a3, h5 (8 * (5 * b + s) + k) (by omega)]
      exact s1 b s k hb hs hk
  · by_cases e : b = R
    · subst e
      by_cases h18 : vi w 18 b = 0
      · obtain ⟨q1, q2, q3, q4⟩ := h8 h18
        have e21 : vi w 21 = vi ws 21 := funext q4
        rw [e21, q2, q3]
        exact s2 b hb
      · obtain ⟨q1, q2, q3, q4⟩ := h9 h18
        rw [q1, show (560 * (b : Int)).toNat = 560 * b from by omega]
        exact q4
    · obtain ⟨-, -, a15, a16⟩ := h3 b e
      rw [a15, a16]
      obtain ⟨r1, r2⟩ := s3 b hb
      have hb16 := b16 b hb
      refine wfc_congr (c := vi ws 21) (fun j j1 j2 => h7 j ?_) (s2 b hb)
      omega
  · by_cases e : b = R
    · subst e
      by_cases h18 : vi w 18 b = 0
      · obtain ⟨q1, q2, q3, q4⟩ := h8 h18
        rw [q2, q3]
        exact s3 b hb
      · obtain ⟨q1, q2, q3, q4⟩ := h9 h18
        exact ⟨by omega, by omega⟩
    · obtain ⟨-, -, a15, a16⟩ := h3 b e
      rw [a15, a16]
      exact s3 b hb
theorem im_c {w w' : va_W} (a : ∀ g ∈ [3, 5, 13, 14, 15, 16, 21], ∀ j, vi w' g j = vi w g j) (h : imSW w ∧ imWF w ∧ imRg w) : imSW w' ∧ imWF w' ∧ imRg w' := by
  obtain ⟨h1, h2, h3⟩ := h
  have e21 : vi w' 21 = vi w 21 := funext (a 21 (by decide))
  refine ⟨fun b s k hb hs hk => ?_, fun b hb => ?_, fun b hb => ?_⟩
  · rw [a 5 (by decide)] at hs
    rw [a 13 (by decide)] at hk
    rw [a 14 (by decide), a 3 (by decide)]
    exact h1 b s k hb hs hk
  · rw [e21, a 15 (by decide), a 16 (by decide)]
    exact h2 b hb
  · rw [a 15 (by decide), a 16 (by decide)]
    exact h3 b hb
theorem TI_0 {ws w : va_W} {R : Nat} (h35 : vi w 0 35 = R) (h34 : vi w 0 34 = vi ws 0 34) (h36 : vi w 0 36 = 560 * (R : Int)) (a3 : ∀ j : Nat, vi w 3 j = if j = R then 0 else vi ws 3 j) (a4 : ∀ j : Nat, vi w 4 j = if j = R then 0 else vi ws 4 j) (a5 : ∀ j : Nat, vi w 5 j = if j = R then 0 else vi ws 5 j) (a18 : ∀ j : Nat, vi w 18 j = if j = R then 0 else vi ws 18 j) (a13 : ∀ j, vi w 13 j = vi ws 13 j) (a14 : ∀ j, vi w 14 j = vi ws 14 j) (a15 : ∀ j, vi w 15 j = vi ws 15 j) (a16 : ∀ j, vi w 16 j = vi ws 16 j) (a21 : ∀ j, vi w 21 j = vi ws 21 j) : TI ws w R := by
  have q5 : vi w 5 R = 0 := by rw [a5, if_pos rfl]
  have q4 : vi w 4 R = 0 := by rw [a4, if_pos rfl]
  have q18 : vi w 18 R = 0 := by rw [a18, if_pos rfl]
  refine ⟨⟨h35, h34⟩, fun j hj => ?_, fun j _ => a13 j, fun j _ => a14 j, fun s k hs => by omega, fun j _ => a21 j, fun _ => ⟨h36, a15 R, a16 R, a21⟩, fun q => absurd q18 q, by omega⟩
  rw [a3, if_neg hj, a5, if_neg hj]
  exact ⟨rfl, rfl, a15 j, a16 j⟩

set_option maxRecDepth 100000 in
set_option maxHeartbeats 4000000 in
theorem h_clearBank {l : Launch} {E : (Nat → Prop) → State → Prop} {ad : List Nat} {D : va_G} {cy : Nat → ClassId} (h : fx_env E D classes (tys cy) nestW) (r : Nat) (hr0 : ad[0]? = some r) : hM l yX12_clearBank cX12_clearBank 1 none ({ frames := 0, cells := 0, slots := 0, locals := 0 }) E ad D cy (fun av ws => av = [.ref r] ∧ True) (fun _ ws rv ws1 => fx_sm (gsM, TM, cy, fun _ => True) [(12, 36), (1000, 3), (1000, 4), (1000, 5), (1000, 6), (1000, 7), (1000, 8), (1000, 17), (1000, 18), (1000, 19)] ws ws1 ∧ rv = none ∧ vi ws1 0 36 = 560 * vi ws 0 35 ∧ (∀ j : Nat, vi ws1 3 j = if j = (Int.toNat (vi ws 0 35)) then 0 else vi ws 3 j) ∧ (∀ j : Nat, vi ws1 4 j = if j = (Int.toNat (vi ws 0 35)) then 0 else vi ws 4 j) ∧ (∀ j : Nat, vi ws1 5 j = if j = (Int.toNat (vi ws 0 35)) then 0 else vi ws 5 j) ∧ (∀ j : Nat, vi ws1 17 j = if j = (Int.toNat (vi ws 0 35)) then 0 else vi ws 17 j) ∧ (∀ j : Nat, vi ws1 18 j = if j = (Int.toNat (vi ws 0 35)) then 0 else vi ws 18 j) ∧ (∀ j : Nat, vi ws1 19 j = if j = (Int.toNat (vi ws 0 35)) then 0 else vi ws 19 j)) := by
  refine hM_of h (by decide) ?_
  intro av ws p e s m below meth c hwo hnd hpre hlocks hr C
  obtain ⟨rfl, hpre⟩ := hpre
  refine ⟨Nat.le_of_ble_eq_true rfl, ?_⟩
  refine hr_pick (lv' := [(0, .ref r)]) [0] rfl ?_
  refine hr_aln C 0 dX12_clearBank_0 rfl rfl rfl ?_
  refine hr_gA (g := 3) C hr0 TM0 rfl (by decide) fl_X12_20 dX12_clearBank_1 rfl (fun a1 ha2 => ?_)
  refine hr_aln C 0 dX12_clearBank_4 rfl rfl rfl ?_
  refine hr_gI (lo := 0) (hi := 1) C hr0 TM0 rfl fl_X12_265 dX12_clearBank_5 rfl (fun b3 b4 => ?_)
  refine hr_ic C dX12_clearBank_8 rfl ?_
  refine hr_ast C ha2 TMa_3 (by omega) (by omega) (by decide) ⟨by omega, by omega⟩ (hp1 (by omega) (by omega)) dX12_clearBank_9 rfl (fun w5 o6 s7 e8 => ?_)
  refine hr_aln C 0 dX12_clearBank_10 rfl rfl rfl ?_
  refine hr_gA (g := 4) C hr0 TM0 rfl (by decide) fl_X12_24 dX12_clearBank_11 rfl (fun a9 ha10 => ?_)
  refine hr_aln C 0 dX12_clearBank_14 rfl rfl rfl ?_
  refine hr_gI (lo := 0) (hi := 1) C hr0 TM0 rfl fl_X12_265 dX12_clearBank_15 rfl (fun b11 b12 => ?_)
  have q13 : vi w5 0 35 = vi ws 0 35 := by rw [e8, if_neg (by omega)]
  rw [q13] at b11 b12 ⊢
  refine hr_ic C dX12_clearBank_18 rfl ?_
  refine hr_ast C ha10 TMa_4 (by omega) (by omega) (by decide) ⟨by omega, by omega⟩ (hp1 (by omega) (by omega)) dX12_clearBank_19 rfl (fun w14 o15 s16 e17 => ?_)
  refine hr_aln C 0 dX12_clearBank_20 rfl rfl rfl ?_
  refine hr_gA (g := 5) C hr0 TM0 rfl (by decide) fl_X12_27 dX12_clearBank_21 rfl (fun a18 ha19 => ?_)
  refine hr_aln C 0 dX12_clearBank_24 rfl rfl rfl ?_
  refine hr_gI (lo := 0) (hi := 1) C hr0 TM0 rfl fl_X12_265 dX12_clearBank_25 rfl (fun b20 b21 => ?_)
  have q22 : vi w14 0 35 = vi ws 0 35 := by rw [e17, if_neg (by omega)]; rw [e8, if_neg (by omega)]
  rw [q22] at b20 b21 ⊢
  refine hr_ic C dX12_clearBank_28 rfl ?_
  refine hr_ast C ha19 TMa_5 (by omega) (by omega) (by decide) ⟨by omega, by omega⟩ (hp1 (by omega) (by omega)) dX12_clearBank_29 rfl (fun w23 o24 s25 e26 => ?_)
  refine hr_aln C 0 dX12_clearBank_30 rfl rfl rfl ?_
  refine hr_gA (g := 6) C hr0 TM0 rfl (by decide) fl_X12_30 dX12_clearBank_31 rfl (fun a27 ha28 => ?_)
  refine hr_aln C 0 dX12_clearBank_34 rfl rfl rfl ?_
  refine hr_gI (lo := 0) (hi := 1) C hr0 TM0 rfl fl_X12_265 dX12_clearBank_35 rfl (fun b29 b30 => ?_)
  have q31 : vi w23 0 35 = vi ws 0 35 := by rw [e26, if_neg (by omega)]; rw [e17, if_neg (by omega)]; rw [e8, if_neg (by omega)]
  rw [q31] at b29 b30 ⊢
  refine hr_ic C dX12_clearBank_38 rfl ?_
  refine hr_ast C ha28 TMa_6 (by omega) (by omega) (by decide) ⟨by omega, by omega⟩ (hp1 (by omega) (by omega)) dX12_clearBank_39 rfl (fun w32 o33 s34 e35 => ?_)
  refine hr_aln C 0 dX12_clearBank_40 rfl rfl rfl ?_
  refine hr_gA (g := 7) C hr0 TM0 rfl (by decide) fl_X12_33 dX12_clearBank_41 rfl (fun a36 ha37 => ?_)
  refine hr_aln C 0 dX12_clearBank_44 rfl rfl rfl ?_
  refine hr_gI (lo := 0) (hi := 1) C hr0 TM0 rfl fl_X12_265 dX12_clearBank_45 rfl (fun b38 b39 => ?_)
  have q40 : vi w32 0 35 = vi ws 0 35 := by rw [e35, if_neg (by omega)]; rw [e26, if_neg (by omega)]; rw [e17, if_neg (by omega)]; rw [e8, if_neg (by omega)]
  rw [q40] at b38 b39 ⊢
  refine hr_ic C dX12_clearBank_48 rfl ?_
  refine hr_ast C ha37 TMa_7 (by omega) (by omega) (by decide) ⟨by omega, by omega⟩ (hp1 (by omega) (by omega)) dX12_clearBank_49 rfl (fun w41 o42 s43 e44 => ?_)
  refine hr_aln C 0 dX12_clearBank_50 rfl rfl rfl ?_
  refine hr_gA (g := 8) C hr0 TM0 rfl (by decide) fl_X12_36 dX12_clearBank_51 rfl (fun a45 ha46 => ?_)
  refine hr_aln C 0 dX12_clearBank_54 rfl rfl rfl ?_
  refine hr_gI (lo := 0) (hi := 1) C hr0 TM0 rfl fl_X12_265 dX12_clearBank_55 rfl (fun b47 b48 => ?_)
  have q49 : vi w41 0 35 = vi ws 0 35 := by rw [e44, if_neg (by omega)]; rw [e35, if_neg (by omega)]; rw [e26, if_neg (by omega)]; rw [e17, if_neg (by omega)]; rw [e8, if_neg (by omega)]
  rw [q49] at b47 b48 ⊢
  refine hr_ic C dX12_clearBank_58 rfl ?_
  refine hr_ast C ha46 TMa_8 (by omega) (by omega) (by decide) ⟨by omega, by omega⟩ (hp1 (by omega) (by omega)) dX12_clearBank_59 rfl (fun w50 o51 s52 e53 => ?_)
  refine hr_aln C 0 dX12_clearBank_60 rfl rfl rfl ?_
  refine hr_gA (g := 17) C hr0 TM0 rfl (by decide) fl_X12_63 dX12_clearBank_61 rfl (fun a54 ha55 => ?_)
  refine hr_aln C 0 dX12_clearBank_64 rfl rfl rfl ?_
  refine hr_gI (lo := 0) (hi := 1) C hr0 TM0 rfl fl_X12_265 dX12_clearBank_65 rfl (fun b56 b57 => ?_)
  have q58 : vi w50 0 35 = vi ws 0 35 := by rw [e53, if_neg (by omega)]; rw [e44, if_neg (by omega)]; rw [e35, if_neg (by omega)]; rw [e26, if_neg (by omega)]; rw [e17, if_neg (by omega)]; rw [e8, if_neg (by omega)]
  rw [q58] at b56 b57 ⊢
  refine hr_ic C dX12_clearBank_68 rfl ?_
  refine hr_zst C ha55 TMa_17 (by omega) (by omega) (by decide) (by omega) dX12_clearBank_69 rfl (fun w59 o60 s61 e62 => ?_)
  refine hr_aln C 0 dX12_clearBank_70 rfl rfl rfl ?_
  refine hr_gA (g := 18) C hr0 TM0 rfl (by decide) fl_X12_67 dX12_clearBank_71 rfl (fun a63 ha64 => ?_)
  refine hr_aln C 0 dX12_clearBank_74 rfl rfl rfl ?_
  refine hr_gI (lo := 0) (hi := 1) C hr0 TM0 rfl fl_X12_265 dX12_clearBank_75 rfl (fun b65 b66 => ?_)
  have q67 : vi w59 0 35 = vi ws 0 35 := by rw [e62, if_neg (by omega)]; rw [e53, if_neg (by omega)]; rw [e44, if_neg (by omega)]; rw [e35, if_neg (by omega)]; rw [e26, if_neg (by omega)]; rw [e17, if_neg (by omega)]; rw [e8, if_neg (by omega)]
  rw [q67] at b65 b66 ⊢
  refine hr_ic C dX12_clearBank_78 rfl ?_
  refine hr_zst C ha64 TMa_18 (by omega) (by omega) (by decide) (by omega) dX12_clearBank_79 rfl (fun w68 o69 s70 e71 => ?_)
  refine hr_aln C 0 dX12_clearBank_80 rfl rfl rfl ?_
  refine hr_gA (g := 19) C hr0 TM0 rfl (by decide) fl_X12_70 dX12_clearBank_81 rfl (fun a72 ha73 => ?_)
  refine hr_aln C 0 dX12_clearBank_84 rfl rfl rfl ?_
  refine hr_gI (lo := 0) (hi := 1) C hr0 TM0 rfl fl_X12_265 dX12_clearBank_85 rfl (fun b74 b75 => ?_)
  have q76 : vi w68 0 35 = vi ws 0 35 := by rw [e71, if_neg (by omega)]; rw [e62, if_neg (by omega)]; rw [e53, if_neg (by omega)]; rw [e44, if_neg (by omega)]; rw [e35, if_neg (by omega)]; rw [e26, if_neg (by omega)]; rw [e17, if_neg (by omega)]; rw [e8, if_neg (by omega)]
  rw [q76] at b74 b75 ⊢
  refine hr_ic C dX12_clearBank_88 rfl ?_
  refine hr_zst C ha73 TMa_19 (by omega) (by omega) (by decide) (by omega) dX12_clearBank_89 rfl (fun w77 o78 s79 e80 => ?_)
  refine hr_aln C 0 dX12_clearBank_90 rfl rfl rfl ?_
  refine hr_si C dX12_clearBank_91 (by decide +kernel) rfl ?_
  refine hr_aln C 0 dX12_clearBank_94 rfl rfl rfl ?_
  refine hr_gI (lo := 0) (hi := 1) C hr0 TM0 rfl fl_X12_265 dX12_clearBank_95 rfl (fun b81 b82 => ?_)
  have q83 : vi w77 0 35 = vi ws 0 35 := by rw [e80, if_neg (by omega)]; rw [e71, if_neg (by omega)]; rw [e62, if_neg (by omega)]; rw [e53, if_neg (by omega)]; rw [e44, if_neg (by omega)]; rw [e35, if_neg (by omega)]; rw [e26, if_neg (by omega)]; rw [e17, if_neg (by omega)]; rw [e8, if_neg (by omega)]
  rw [q83] at b81 b82 ⊢
  refine hr_mul C dX12_clearBank_98 rfl ?_
  refine hr_pI (lo := 0) (hi := 1120) C hr0 TM0 rfl ⟨by decide, by decide⟩ pl_X12_268 dX12_clearBank_99 (by omega) (by omega) rfl (fun w84 o85 s86 e87 => ?_)
  have f3 : ∀ j : Nat, vi w84 3 j = if j = (Int.toNat (vi ws 0 35)) then 0 else vi ws 3 j := by
    intro j
    rw [show vi w84 3 j = vi w5 3 j from (by rw [e87, if_neg (by omega)]; rw [e80, if_neg (by omega)]; rw [e71, if_neg (by omega)]; rw [e62, if_neg (by omega)]; rw [e53, if_neg (by omega)]; rw [e44, if_neg (by omega)]; rw [e35, if_neg (by omega)]; rw [e26, if_neg (by omega)]; rw [e17, if_neg (by omega)]), e8]
    by_cases hj : j = (Int.toNat (vi ws 0 35))
    · rw [if_pos ⟨rfl, hj⟩, if_pos hj]
    · rw [if_neg (fun q => hj q.2), if_neg hj]
  have f4 : ∀ j : Nat, vi w84 4 j = if j = (Int.toNat (vi ws 0 35)) then 0 else vi ws 4 j := by
    intro j
    rw [show vi w84 4 j = vi w14 4 j from (by rw [e87, if_neg (by omega)]; rw [e80, if_neg (by omega)]; rw [e71, if_neg (by omega)]; rw [e62, if_neg (by omega)]; rw [e53, if_neg (by omega)]; rw [e44, if_neg (by omega)]; rw [e35, if_neg (by omega)]; rw [e26, if_neg (by omega)]), e17]
    by_cases hj : j = (Int.toNat (vi ws 0 35))
    · rw [if_pos ⟨rfl, hj⟩, if_pos hj]
    · rw [if_neg (fun q => hj q.2), if_neg hj]; exact (by rw [e8, if_neg (by omega)])
  have f5 : ∀ j : Nat, vi w84 5 j = if j = (Int.toNat (vi ws 0 35)) then 0 else vi ws 5 j := by
    intro j
    rw [show vi w84 5 j = vi w23 5 j from (by rw [e87, if_neg (by omega)]; rw [e80, if_neg (by omega)]; rw [e71, if_neg (by omega)]; rw [e62, if_neg (by omega)]; rw [e53, if_neg (by omega)]; rw [e44, if_neg (by omega)]; rw [e35, if_neg (by omega)]), e26]
    by_cases hj : j = (Int.toNat (vi ws 0 35))
    · rw [if_pos ⟨rfl, hj⟩, if_pos hj]
    · rw [if_neg (fun q => hj q.2), if_neg hj]; exact (by rw [e17, if_neg (by omega)]; rw [e8, if_neg (by omega)])
  have f17 : ∀ j : Nat, vi w84 17 j = if j = (Int.toNat (vi ws 0 35)) then 0 else vi ws 17 j := by
    intro j
    rw [show vi w84 17 j = vi w59 17 j from (by rw [e87, if_neg (by omega)]; rw [e80, if_neg (by omega)]; rw [e71, if_neg (by omega)]), e62]
    by_cases hj : j = (Int.toNat (vi ws 0 35))
    · rw [if_pos ⟨rfl, hj⟩, if_pos hj]
    · rw [if_neg (fun q => hj q.2), if_neg hj]; exact (by rw [e53, if_neg (by omega)]; rw [e44, if_neg (by omega)]; rw [e35, if_neg (by omega)]; rw [e26, if_neg (by omega)]; rw [e17, if_neg (by omega)]; rw [e8, if_neg (by omega)])
  have f18 : ∀ j : Nat, vi w84 18 j = if j = (Int.toNat (vi ws 0 35)) then 0 else vi ws 18 j := by
    intro j
    rw [show vi w84 18 j = vi w68 18 j from (by rw [e87, if_neg (by omega)]; rw [e80, if_neg (by omega)]), e71]
    by_cases hj : j = (Int.toNat (vi ws 0 35))
    · rw [if_pos ⟨rfl, hj⟩, if_pos hj]
    · rw [if_neg (fun q => hj q.2), if_neg hj]; exact (by rw [e62, if_neg (by omega)]; rw [e53, if_neg (by omega)]; rw [e44, if_neg (by omega)]; rw [e35, if_neg (by omega)]; rw [e26, if_neg (by omega)]; rw [e17, if_neg (by omega)]; rw [e8, if_neg (by omega)])
  have f19 : ∀ j : Nat, vi w84 19 j = if j = (Int.toNat (vi ws 0 35)) then 0 else vi ws 19 j := by
    intro j
    rw [show vi w84 19 j = vi w77 19 j from (by rw [e87, if_neg (by omega)]), e80]
    by_cases hj : j = (Int.toNat (vi ws 0 35))
    · rw [if_pos ⟨rfl, hj⟩, if_pos hj]
    · rw [if_neg (fun q => hj q.2), if_neg hj]; exact (by rw [e71, if_neg (by omega)]; rw [e62, if_neg (by omega)]; rw [e53, if_neg (by omega)]; rw [e44, if_neg (by omega)]; rw [e35, if_neg (by omega)]; rw [e26, if_neg (by omega)]; rw [e17, if_neg (by omega)]; rw [e8, if_neg (by omega)])
  exact hr_vret C hlocks hr dX12_clearBank_102 ⟨(fx_sm_tr (fx_sm_tr (fx_sm_tr (fx_sm_tr (fx_sm_tr (fx_sm_tr (fx_sm_tr (fx_sm_tr (fx_sm_tr (fx_sm_tr fx_sm_refl s7 (by decide)) s16 (by decide)) s25 (by decide)) s34 (by decide)) s43 (by decide)) s52 (by decide)) s61 (by decide)) s70 (by decide)) s79 (by decide)) s86 (by decide)), rfl, (by rw [e87, if_pos ⟨rfl, rfl⟩]), f3, f4, f5, f17, f18, f19⟩
set_option maxRecDepth 100000 in
set_option maxHeartbeats 4000000 in
theorem h_table {l : Launch} {E : (Nat → Prop) → State → Prop} {ad : List Nat} {D : va_G} {cy : Nat → ClassId} (h : fx_env E D classes (tys cy) nestW) (r : Nat) (hr0 : ad[0]? = some r) : hM l yX12_table cX12_table 2 (some .int) ({ frames := 7, cells := 0, slots := 0, locals := 151 }) E ad D cy (fun av ws => av = [.ref r] ∧ imAU ws ∧ imSW ws ∧ imWF ws ∧ imRg ws) (fun _ ws rv ws1 => fx_sm (gsM, TM, cy, fun _ => True) [(12, 4), (12, 5), (12, 6), (12, 7), (12, 8), (12, 9), (12, 10), (12, 36), (12, 37), (12, 38), (12, 39), (1000, 6), (1000, 21), (1000, 22), (1000, 23), (1000, 24), (1000, 15), (1000, 16), (1000, 3), (1000, 4), (1000, 5), (1000, 7), (1000, 8), (1000, 9), (1000, 10), (1000, 11), (1000, 12), (1000, 13), (1000, 14), (1000, 17), (1000, 18), (1000, 19), (1000, 20), (12, 2), (12, 3), (12, 34), (12, 35), (12, 49), (12, 50), (12, 55), (12, 69), (1000, 2), (1000, 26), (1000, 48)] ws ws1 ∧ (∃ z, rv = some (zv z) ∧ -1 ≤ z ∧ z ≤ 5) ∧ imAU ws1 ∧ imSW ws1 ∧ imWF ws1 ∧ imRg ws1) := by
  refine hM_of h (by decide) ?_
  intro av ws p e s m below meth c hwo hnd hpre hlocks hr C
  obtain ⟨rfl, hpre⟩ := hpre
  refine ⟨Nat.le_of_ble_eq_true rfl, ?_⟩
  refine hr_pick (lv' := [(0, .ref r)]) [0] rfl ?_
  obtain ⟨iau, isw, iwf, irg⟩ := hpre
  have hB := fl_b (fi := 34) (lo := 0) (hi := 1) hwo hr0 rfl
  obtain ⟨R, hRe⟩ : ∃ R : Nat, (R : Int) = 1 - vi ws 0 34 := ⟨(1 - vi ws 0 34).toNat, by omega⟩
  have hR : R < 2 := by omega
  have hb5 : ∀ j, j < 2 → vi ws 5 j ≤ 5 := fun j hj => (el_b (fi := 13) (g := 5) (n := 2) (lo := 0) (hi := 5) hwo hr0 rfl (by decide) TMa_5 hj).2
  have hb13 : ∀ j, j < 10 → vi ws 13 j ≤ 8 := fun j hj => (el_b (fi := 21) (g := 13) (n := 10) (lo := 0) (hi := 8) hwo hr0 rfl (by decide) TMa_13 hj).2
  have hb16 : ∀ j, j < 2 → 0 ≤ vi ws 16 j ∧ 0 ≤ vi ws 15 j := fun j hj => ⟨(el_b (fi := 24) (g := 16) (n := 2) (lo := 0) (hi := 1120) hwo hr0 rfl (by decide) TMa_16 hj).1, (el_b (fi := 23) (g := 15) (n := 2) (lo := 0) (hi := 1120) hwo hr0 rfl (by decide) TMa_15 hj).1⟩
  have k95 : ∀ (w : va_W), fx_wo (gsM, TM, cy, fun _ => True) ad w → fx_sm (gsM, TM, cy, fun _ => True) [(12, 4), (12, 5), (12, 6), (12, 7), (12, 8), (12, 9), (12, 10), (12, 36), (12, 37), (12, 38), (12, 39), (1000, 6), (1000, 21), (1000, 22), (1000, 23), (1000, 24), (1000, 15), (1000, 16), (1000, 3), (1000, 4), (1000, 5), (1000, 7), (1000, 8), (1000, 9), (1000, 10), (1000, 11), (1000, 12), (1000, 13), (1000, 14), (1000, 17), (1000, 18), (1000, 19), (1000, 20), (12, 2), (12, 3), (12, 34), (12, 35), (12, 49), (12, 50), (12, 55), (12, 69), (1000, 2), (1000, 26), (1000, 48)] ws w → vi w 0 7 ≤ 1600 → TI ws w R → vi w 0 49 = vi ws 0 49 → vi w 0 50 = vi ws 0 50 → HW l E ad D cy (va_A ws s.heap.size) s.heap p e ({ frames := 7, cells := 0, slots := 0, locals := 151 }) s m ([.ref r]).toArray below meth c (MQ below (hQ ad D cy (fun _ ws rv ws1 => fx_sm (gsM, TM, cy, fun _ => True) [(12, 4), (12, 5), (12, 6), (12, 7), (12, 8), (12, 9), (12, 10), (12, 36), (12, 37), (12, 38), (12, 39), (1000, 6), (1000, 21), (1000, 22), (1000, 23), (1000, 24), (1000, 15), (1000, 16), (1000, 3), (1000, 4), (1000, 5), (1000, 7), (1000, 8), (1000, 9), (1000, 10), (1000, 11), (1000, 12), (1000, 13), (1000, 14), (1000, 17), (1000, 18), (1000, 19), (1000, 20), (12, 2), (12, 3), (12, 34), (12, 35), (12, 49), (12, 50), (12, 55), (12, 69), (1000, 2), (1000, 26), (1000, 48)] ws ws1 ∧ (∃ z, rv = some (zv z) ∧ -1 ≤ z ∧ z ≤ 5) ∧ imAU ws1 ∧ imSW ws1 ∧ imWF ws1 ∧ imRg ws1) ([.ref r]) ws s.heap.size) ([.ref r]).toArray s 0 0 (va_A ws s.heap.size)) cX12_table 2 yX12_table.cls 95 [(0, .ref r)] [] w := by
    intro w how sm he ti h49 h50
    refine hr_aln C 0 dX12_table_95 rfl rfl rfl ?_
    refine hr_cV (As := []) (rest := []) C (hM_fx (km293 h)) ⟨by decide, by decide⟩ iV_X12_isGood g_X12_241 TM0 hr0 dX12_table_96 rfl rfl (Nat.le_of_ble_eq_true rfl) rfl ⟨(ty_cons (ok_r hr0 (by decide) (by decide)) ty_nil), ⟨_, rfl⟩⟩ (fun w1 rv o2 q3 => ?_)
    obtain ⟨s4, po, hpo5, hrv6, hty7, rt, hfs8⟩ := q3
    replace s4 : fx_sm (gsM, TM, cy, fun _ => True) [] w w1 := s4
    simp only [km293_c, List.mem_cons, List.not_mem_nil, or_false] at hpo5
    rcases hpo5 with rfl | rfl
    · obtain ⟨v9, rfl, hv10⟩ := hrv6
      obtain ⟨z11, rfl, b12, b13, b14⟩ := ok_iz hv10
      simp only [rg] at b14
      obtain rfl : z11 = 1 := by omega
      have hf15 := fs_t hnd o2 hr0 rfl hfs8
      refine hr_norm (st' := [zv (1)]) rfl ?_
      refine hr_if C 104 dX12_table_99 (by decide) ⟨by omega, by omega⟩ rfl (fun c16 => ?_) (fun c16 => absurd (show (1 : Int) = 0 from c16) (by omega))
      have c16 : ¬ (1 : Int) = 0 := c16
      refine hr_aln C 0 dX12_table_104 rfl rfl rfl ?_
      refine hr_aln C 0 dX12_table_105 rfl rfl rfl ?_
      refine hr_gI (lo := 0) (hi := 1) C hr0 TM0 rfl fl_X12_265 dX12_table_106 rfl (fun b17 b18 => ?_)
      have q19 : vi w1 0 35 = vi w 0 35 := by rw [sm_f how o2 s4 (by decide)]
      rw [q19] at b17 b18 ⊢
      refine hr_pI (lo := 0) (hi := 1) C hr0 TM0 rfl ⟨by decide, by decide⟩ pl_X12_274 dX12_table_109 (by omega) (by omega) rfl (fun w20 o21 s22 e23 => ?_)
      refine hr_aln C 0 dX12_table_112 rfl rfl rfl ?_
      refine hr_cV (As := []) (rest := []) C (hM_fx (km311 h)) ⟨by decide, by decide⟩ iV_X12_startAnew g_X12_164 TM0 hr0 dX12_table_113 rfl rfl (Nat.le_of_ble_eq_true rfl) rfl ⟨(ty_cons (ok_r hr0 (by decide) (by decide)) ty_nil), ⟨_, rfl⟩⟩ (fun w24 rv o25 q26 => ?_)
      obtain ⟨s27, po, hpo28, hrv29, hty30, rt, hfs31⟩ := q26
      replace s27 : fx_sm (gsM, TM, cy, fun _ => True) [(12, 49), (12, 50), (12, 55), (12, 69), (1000, 26), (1000, 48)] w20 w24 := s27
      simp only [km311_c, List.mem_cons, List.not_mem_nil, or_false] at hpo28
      subst hpo28
      obtain rfl := hrv29
      obtain ⟨⟨_, u32⟩, av33, g34, u35⟩ := fs_u (v0 := .ref r) rfl hfs31
      have hf36 := fs_t hnd o25 hr0 rfl u32
      obtain ⟨⟨_, u37⟩, av38, g39, u40⟩ := fs_u (v0 := .ref r) g34 u35
      have hf41 := fs_t hnd o25 hr0 g34 u37
      obtain ⟨⟨_, u42⟩, av43, g44, u45⟩ := fs_u (v0 := .ref r) g39 u40
      have hf46 := fs_t hnd o25 hr0 g39 u42
      have hf47 := fs_t hnd o25 hr0 g44 u45
      refine hr_norm (st' := []) rfl ?_
      refine hr_aln C 0 dX12_table_116 rfl rfl rfl ?_
      refine hr_gA (g := 5) C hr0 TM0 rfl (by decide) fl_X12_27 dX12_table_117 rfl (fun a48 ha49 => ?_)
      refine hr_aln C 0 dX12_table_120 rfl rfl rfl ?_
      refine hr_gI (lo := 0) (hi := 1) C hr0 TM0 rfl fl_X12_274 dX12_table_121 rfl (fun b50 b51 => ?_)
      have q52 : vi w24 0 34 = vi w 0 35 := by rw [sm_f o21 o25 s27 (by decide)]; rw [e23, if_pos ⟨rfl, rfl⟩]
      rw [q52] at b50 b51 ⊢
      refine hr_ald C ha49 TMa_5 (by omega) (by omega) (by decide) dX12_table_124 rfl (fun b53 b54 => ?_)
      have b53 := gp1 b53
      have q55 : vi w24 5 (Int.toNat (vi w 0 35)) = vi w 5 (Int.toNat (vi w 0 35)) := by rw [sm_a o21 o25 s27 TMa_5 (by decide)]; rw [e23, if_neg (by omega)]; rw [sm_a how o2 s4 TMa_5 (by decide)]
      rw [q55] at b53 b54 ⊢
      simp only [rg] at b54
      have ic := im_c (w := w) (w' := w24) (fun g hg j => by
        simp only [List.mem_cons, List.not_mem_nil, or_false] at hg
        rcases hg with rfl | rfl | rfl | rfl | rfl | rfl | rfl
        · exact (by rw [sm_a o21 o25 s27 TMa_3 (by decide)]; rw [e23, if_neg (by omega)]; rw [sm_a how o2 s4 TMa_3 (by decide)])
        · exact (by rw [sm_a o21 o25 s27 TMa_5 (by decide)]; rw [e23, if_neg (by omega)]; rw [sm_a how o2 s4 TMa_5 (by decide)])
        · exact (by rw [sm_a o21 o25 s27 TMa_13 (by decide)]; rw [e23, if_neg (by omega)]; rw [sm_a how o2 s4 TMa_13 (by decide)])
        · exact (by rw [sm_a o21 o25 s27 TMa_14 (by decide)]; rw [e23, if_neg (by omega)]; rw [sm_a how o2 s4 TMa_14 (by decide)])
        · exact (by rw [sm_a o21 o25 s27 TMa_15 (by decide)]; rw [e23, if_neg (by omega)]; rw [sm_a how o2 s4 TMa_15 (by decide)])
        · exact (by rw [sm_a o21 o25 s27 TMa_16 (by decide)]; rw [e23, if_neg (by omega)]; rw [sm_a how o2 s4 TMa_16 (by decide)])
        · exact (by rw [sm_a o21 o25 s27 TMa_21 (by decide)]; rw [e23, if_neg (by omega)]; rw [sm_a how o2 s4 TMa_21 (by decide)])) (TI_out hR ti hb5 hb13 hb16 isw iwf irg)
      have hau : imAU w24 := by unfold imAU; omega
      exact hr_iret C hlocks hr dX12_table_125 ⟨(fx_sm_tr (fx_sm_tr (fx_sm_tr sm s4 (by decide)) s22 (by decide)) s27 (by decide)), ⟨_, rfl, by omega, by omega⟩, hau, ic⟩
    · obtain ⟨v56, rfl, hv57⟩ := hrv6
      obtain ⟨z58, rfl, b59, b60, b61⟩ := ok_iz hv57
      simp only [rg] at b61
      obtain rfl : z58 = 0 := by omega
      have hf62 := fs_t hnd o2 hr0 rfl hfs8
      refine hr_norm (st' := [zv (0)]) rfl ?_
      refine hr_if C 104 dX12_table_99 (by decide) ⟨by omega, by omega⟩ rfl (fun c63 => absurd (show ¬ (0 : Int) = 0 from c63) (by omega)) (fun c63 => ?_)
      have c63 : (0 : Int) = 0 := c63
      refine hr_ic C dX12_table_102 rfl ?_
      have ic := im_c (w := w) (w' := w1) (fun g hg j => by
        simp only [List.mem_cons, List.not_mem_nil, or_false] at hg
        rcases hg with rfl | rfl | rfl | rfl | rfl | rfl | rfl
        · exact (by rw [sm_a how o2 s4 TMa_3 (by decide)])
        · exact (by rw [sm_a how o2 s4 TMa_5 (by decide)])
        · exact (by rw [sm_a how o2 s4 TMa_13 (by decide)])
        · exact (by rw [sm_a how o2 s4 TMa_14 (by decide)])
        · exact (by rw [sm_a how o2 s4 TMa_15 (by decide)])
        · exact (by rw [sm_a how o2 s4 TMa_16 (by decide)])
        · exact (by rw [sm_a how o2 s4 TMa_21 (by decide)])) (TI_out hR ti hb5 hb13 hb16 isw iwf irg)
      have : vi w1 0 49 = vi w 0 49 := (by rw [sm_f how o2 s4 (by decide)])
      have : vi w1 0 50 = vi w 0 50 := (by rw [sm_f how o2 s4 (by decide)])
      have hau : imAU w1 := by unfold imAU at iau ⊢; omega
      exact hr_iret C hlocks hr dX12_table_103 ⟨(fx_sm_tr sm s4 (by decide)), ⟨_, rfl, by omega, by omega⟩, hau, ic⟩
  have k74 : ∀ (w : va_W), 1 ≤ vi w 0 4 → fx_wo (gsM, TM, cy, fun _ => True) ad w → fx_sm (gsM, TM, cy, fun _ => True) [(12, 4), (12, 5), (12, 6), (12, 7), (12, 8), (12, 9), (12, 10), (12, 36), (12, 37), (12, 38), (12, 39), (1000, 6), (1000, 21), (1000, 22), (1000, 23), (1000, 24), (1000, 15), (1000, 16), (1000, 3), (1000, 4), (1000, 5), (1000, 7), (1000, 8), (1000, 9), (1000, 10), (1000, 11), (1000, 12), (1000, 13), (1000, 14), (1000, 17), (1000, 18), (1000, 19), (1000, 20), (12, 2), (12, 3), (12, 34), (12, 35), (12, 49), (12, 50), (12, 55), (12, 69), (1000, 2), (1000, 26), (1000, 48)] ws w → vi w 0 7 ≤ 1600 → TI ws w R → vi w 0 49 = vi ws 0 49 → vi w 0 50 = vi ws 0 50 → HW l E ad D cy (va_A ws s.heap.size) s.heap p e ({ frames := 7, cells := 0, slots := 0, locals := 151 }) s m ([.ref r]).toArray below meth c (MQ below (hQ ad D cy (fun _ ws rv ws1 => fx_sm (gsM, TM, cy, fun _ => True) [(12, 4), (12, 5), (12, 6), (12, 7), (12, 8), (12, 9), (12, 10), (12, 36), (12, 37), (12, 38), (12, 39), (1000, 6), (1000, 21), (1000, 22), (1000, 23), (1000, 24), (1000, 15), (1000, 16), (1000, 3), (1000, 4), (1000, 5), (1000, 7), (1000, 8), (1000, 9), (1000, 10), (1000, 11), (1000, 12), (1000, 13), (1000, 14), (1000, 17), (1000, 18), (1000, 19), (1000, 20), (12, 2), (12, 3), (12, 34), (12, 35), (12, 49), (12, 50), (12, 55), (12, 69), (1000, 2), (1000, 26), (1000, 48)] ws ws1 ∧ (∃ z, rv = some (zv z) ∧ -1 ≤ z ∧ z ≤ 5) ∧ imAU ws1 ∧ imSW ws1 ∧ imWF ws1 ∧ imRg ws1) ([.ref r]) ws s.heap.size) ([.ref r]).toArray s 0 0 (va_A ws s.heap.size)) cX12_table 2 yX12_table.cls 74 [(0, .ref r)] [] w := by
    intro w hflt how sm he ti h49 h50
    refine hr_aln C 0 dX12_table_74 rfl rfl rfl ?_
    refine hr_cV (As := []) (rest := []) C (hM_fx (km293 h)) ⟨by decide, by decide⟩ iV_X12_isGood g_X12_241 TM0 hr0 dX12_table_75 rfl rfl (Nat.le_of_ble_eq_true rfl) rfl ⟨(ty_cons (ok_r hr0 (by decide) (by decide)) ty_nil), ⟨_, rfl⟩⟩ (fun w1 rv o2 q3 => ?_)
    obtain ⟨s4, po, hpo5, hrv6, hty7, rt, hfs8⟩ := q3
    replace s4 : fx_sm (gsM, TM, cy, fun _ => True) [] w w1 := s4
    simp only [km293_c, List.mem_cons, List.not_mem_nil, or_false] at hpo5
    rcases hpo5 with rfl | rfl
    · obtain ⟨v9, rfl, hv10⟩ := hrv6
      obtain ⟨z11, rfl, b12, b13, b14⟩ := ok_iz hv10
      simp only [rg] at b14
      obtain rfl : z11 = 1 := by omega
      have hf15 := fs_t hnd o2 hr0 rfl hfs8
      refine hr_norm (st' := [zv (1)]) rfl ?_
      refine hr_if C 95 dX12_table_78 (by decide) ⟨by omega, by omega⟩ rfl (fun c16 => absurd (show (1 : Int) = 0 from c16) (by omega)) (fun c16 => ?_)
      have c16 : ¬ (1 : Int) = 0 := c16
      exfalso
      have : vi w1 0 4 = vi w 0 4 := (by rw [sm_f how o2 s4 (by decide)])
      omega
    · obtain ⟨v17, rfl, hv18⟩ := hrv6
      obtain ⟨z19, rfl, b20, b21, b22⟩ := ok_iz hv18
      simp only [rg] at b22
      obtain rfl : z19 = 0 := by omega
      have hf23 := fs_t hnd o2 hr0 rfl hfs8
      refine hr_norm (st' := [zv (0)]) rfl ?_
      refine hr_if C 95 dX12_table_78 (by decide) ⟨by omega, by omega⟩ rfl (fun c24 => ?_) (fun c24 => absurd (show ¬ (0 : Int) = 0 from c24) (by omega))
      have c24 : (0 : Int) = 0 := c24
      refine hr_pick (lv' := [(0, .ref r)]) [0] rfl ?_
      exact k95 _ o2 (fx_sm_tr sm s4 (by decide)) (by rw [sm_f how o2 s4 (by decide)]; omega) (TI_x (d := 0) ti (by rw [sm_f how o2 s4 (by decide)]) (by rw [sm_f how o2 s4 (by decide)]) (by rw [sm_f how o2 s4 (by decide)]) (by omega) (fun j => by rw [Int.add_zero, ite_self]; exact (by rw [sm_a how o2 s4 TMa_3 (by decide)])) (by rw [show vi w1 4 R = vi w 4 R from (by rw [sm_a how o2 s4 TMa_4 (by decide)])]; have q := ti; unfold TI at q; obtain ⟨-, -, -, -, -, -, -, -, q⟩ := q; exact q) (fun j => (by rw [sm_a how o2 s4 TMa_5 (by decide)])) (fun j => (by rw [sm_a how o2 s4 TMa_13 (by decide)])) (fun j => (by rw [sm_a how o2 s4 TMa_14 (by decide)])) (fun j => (by rw [sm_a how o2 s4 TMa_15 (by decide)])) (fun j => (by rw [sm_a how o2 s4 TMa_16 (by decide)])) (fun j => (by rw [sm_a how o2 s4 TMa_18 (by decide)])) (fun j => (by rw [sm_a how o2 s4 TMa_21 (by decide)]))) ((show vi w1 0 49 = vi w 0 49 from (by rw [sm_f how o2 s4 (by decide)])).trans h49) ((show vi w1 0 50 = vi w 0 50 from (by rw [sm_f how o2 s4 (by decide)])).trans h50)
  have loop : ∀ (q : Nat) (w : va_W), (38 - (vi w 3 R + vi w 4 R + vi w 5 R + vi w 17 R + vi w 18 R + vi w 19 R)).toNat < q → fx_wo (gsM, TM, cy, fun _ => True) ad w → fx_sm (gsM, TM, cy, fun _ => True) [(12, 4), (12, 5), (12, 6), (12, 7), (12, 8), (12, 9), (12, 10), (12, 36), (12, 37), (12, 38), (12, 39), (1000, 6), (1000, 21), (1000, 22), (1000, 23), (1000, 24), (1000, 15), (1000, 16), (1000, 3), (1000, 4), (1000, 5), (1000, 7), (1000, 8), (1000, 9), (1000, 10), (1000, 11), (1000, 12), (1000, 13), (1000, 14), (1000, 17), (1000, 18), (1000, 19), (1000, 20), (12, 2), (12, 3), (12, 34), (12, 35), (12, 49), (12, 50), (12, 55), (12, 69), (1000, 2), (1000, 26), (1000, 48)] ws w → vi w 0 7 ≤ 1600 → TI ws w R → vi w 0 49 = vi ws 0 49 → vi w 0 50 = vi ws 0 50 → HW l E ad D cy (va_A ws s.heap.size) s.heap p e ({ frames := 7, cells := 0, slots := 0, locals := 151 }) s m ([.ref r]).toArray below meth c (MQ below (hQ ad D cy (fun _ ws rv ws1 => fx_sm (gsM, TM, cy, fun _ => True) [(12, 4), (12, 5), (12, 6), (12, 7), (12, 8), (12, 9), (12, 10), (12, 36), (12, 37), (12, 38), (12, 39), (1000, 6), (1000, 21), (1000, 22), (1000, 23), (1000, 24), (1000, 15), (1000, 16), (1000, 3), (1000, 4), (1000, 5), (1000, 7), (1000, 8), (1000, 9), (1000, 10), (1000, 11), (1000, 12), (1000, 13), (1000, 14), (1000, 17), (1000, 18), (1000, 19), (1000, 20), (12, 2), (12, 3), (12, 34), (12, 35), (12, 49), (12, 50), (12, 55), (12, 69), (1000, 2), (1000, 26), (1000, 48)] ws ws1 ∧ (∃ z, rv = some (zv z) ∧ -1 ≤ z ∧ z ≤ 5) ∧ imAU ws1 ∧ imSW ws1 ∧ imWF ws1 ∧ imRg ws1) ([.ref r]) ws s.heap.size) ([.ref r]).toArray s 0 0 (va_A ws s.heap.size)) cX12_table 2 yX12_table.cls 74 [(0, .ref r)] [] w := by
    intro q
    induction q with
    | zero => intro w hq; omega
    | succ q ih =>
      intro w hq how sm he ti h49 h50
      have ti4 := ti
      unfold TI at ti4
      obtain ⟨-, -, -, -, -, -, -, -, ti5⟩ := ti4
      refine hr_aln C 0 dX12_table_74 rfl rfl rfl ?_
      refine hr_cV (As := []) (rest := []) C (hM_fx (km293 h)) ⟨by decide, by decide⟩ iV_X12_isGood g_X12_241 TM0 hr0 dX12_table_75 rfl rfl (Nat.le_of_ble_eq_true rfl) rfl ⟨(ty_cons (ok_r hr0 (by decide) (by decide)) ty_nil), ⟨_, rfl⟩⟩ (fun w1 rv o2 q3 => ?_)
      obtain ⟨s4, po, hpo5, hrv6, hty7, rt, hfs8⟩ := q3
      replace s4 : fx_sm (gsM, TM, cy, fun _ => True) [] w w1 := s4
      simp only [km293_c, List.mem_cons, List.not_mem_nil, or_false] at hpo5
      rcases hpo5 with rfl | rfl
      · obtain ⟨v9, rfl, hv10⟩ := hrv6
        obtain ⟨z11, rfl, b12, b13, b14⟩ := ok_iz hv10
        simp only [rg] at b14
        obtain rfl : z11 = 1 := by omega
        have hf15 := fs_t hnd o2 hr0 rfl hfs8
        refine hr_norm (st' := [zv (1)]) rfl ?_
        refine hr_if C 95 dX12_table_78 (by decide) ⟨by omega, by omega⟩ rfl (fun c16 => absurd (show (1 : Int) = 0 from c16) (by omega)) (fun c16 => ?_)
        have c16 : ¬ (1 : Int) = 0 := c16
        refine hr_aln C 0 dX12_table_81 rfl rfl rfl ?_
        refine hr_gI (lo := -2147483648) (hi := 2147483647) C hr0 TM0 rfl fl_X12_213 dX12_table_82 rfl (fun b17 b18 => ?_)
        have q19 : vi w1 0 8 = vi w 0 8 := by rw [sm_f how o2 s4 (by decide)]
        rw [q19] at b17 b18 ⊢
        refine hr_if C 95 dX12_table_85 (by decide) ⟨by omega, by omega⟩ rfl (fun c20 => ?_) (fun c20 => ?_)
        · have c20 : (vi w 0 8 : Int) = 0 := c20
          refine hr_pick (lv' := [(0, .ref r)]) [0] rfl ?_
          exact k95 _ o2 (fx_sm_tr sm s4 (by decide)) (by rw [sm_f how o2 s4 (by decide)]; omega) (TI_x (d := 0) ti (by rw [sm_f how o2 s4 (by decide)]) (by rw [sm_f how o2 s4 (by decide)]) (by rw [sm_f how o2 s4 (by decide)]) (by omega) (fun j => by rw [Int.add_zero, ite_self]; exact (by rw [sm_a how o2 s4 TMa_3 (by decide)])) (by rw [show vi w1 4 R = vi w 4 R from (by rw [sm_a how o2 s4 TMa_4 (by decide)])]; have q := ti; unfold TI at q; obtain ⟨-, -, -, -, -, -, -, -, q⟩ := q; exact q) (fun j => (by rw [sm_a how o2 s4 TMa_5 (by decide)])) (fun j => (by rw [sm_a how o2 s4 TMa_13 (by decide)])) (fun j => (by rw [sm_a how o2 s4 TMa_14 (by decide)])) (fun j => (by rw [sm_a how o2 s4 TMa_15 (by decide)])) (fun j => (by rw [sm_a how o2 s4 TMa_16 (by decide)])) (fun j => (by rw [sm_a how o2 s4 TMa_18 (by decide)])) (fun j => (by rw [sm_a how o2 s4 TMa_21 (by decide)]))) ((show vi w1 0 49 = vi w 0 49 from (by rw [sm_f how o2 s4 (by decide)])).trans h49) ((show vi w1 0 50 = vi w 0 50 from (by rw [sm_f how o2 s4 (by decide)])).trans h50)
        · have c20 : ¬ (vi w 0 8 : Int) = 0 := c20
          refine hr_aln C 0 dX12_table_88 rfl rfl rfl ?_
          have : vi w1 3 R = vi w 3 R := (by rw [sm_a how o2 s4 TMa_3 (by decide)])
          have : vi w1 4 R = vi w 4 R := (by rw [sm_a how o2 s4 TMa_4 (by decide)])
          have : vi w1 5 R = vi w 5 R := (by rw [sm_a how o2 s4 TMa_5 (by decide)])
          have : vi w1 17 R = vi w 17 R := (by rw [sm_a how o2 s4 TMa_17 (by decide)])
          have : vi w1 18 R = vi w 18 R := (by rw [sm_a how o2 s4 TMa_18 (by decide)])
          have : vi w1 19 R = vi w 19 R := (by rw [sm_a how o2 s4 TMa_19 (by decide)])
          refine hr_cV (As := []) (rest := []) C (h_readLine h ws r R hr0 hR) ⟨by decide, by decide⟩ iV_X12_readLine g_X12_277 TM0 hr0 dX12_table_89 rfl rfl (Nat.le_of_ble_eq_true rfl) rfl ⟨rfl, (TI_x (d := 0) ti (by rw [sm_f how o2 s4 (by decide)]) (by rw [sm_f how o2 s4 (by decide)]) (by rw [sm_f how o2 s4 (by decide)]) (by omega) (fun j => by rw [Int.add_zero, ite_self]; exact (by rw [sm_a how o2 s4 TMa_3 (by decide)])) (by rw [show vi w1 4 R = vi w 4 R from (by rw [sm_a how o2 s4 TMa_4 (by decide)])]; have q := ti; unfold TI at q; obtain ⟨-, -, -, -, -, -, -, -, q⟩ := q; exact q) (fun j => (by rw [sm_a how o2 s4 TMa_5 (by decide)])) (fun j => (by rw [sm_a how o2 s4 TMa_13 (by decide)])) (fun j => (by rw [sm_a how o2 s4 TMa_14 (by decide)])) (fun j => (by rw [sm_a how o2 s4 TMa_15 (by decide)])) (fun j => (by rw [sm_a how o2 s4 TMa_16 (by decide)])) (fun j => (by rw [sm_a how o2 s4 TMa_18 (by decide)])) (fun j => (by rw [sm_a how o2 s4 TMa_21 (by decide)]))), (by rw [sm_f how o2 s4 (by decide)]; omega)⟩ (fun w21 rv o22 q23 => ?_)
          obtain ⟨s24, rfl, he2, ti2, hcn⟩ := q23
          refine hr_norm (st' := []) rfl ?_
          refine hr_goto C 74 dX12_table_92 (by decide) ?_
          refine hr_pick (lv' := [(0, .ref r)]) [0] rfl ?_
          have hE3 := el_b (fi := 11) (g := 3) (n := 2) (lo := 0) (hi := 9) (j := R) o22 hr0 rfl (by decide) TMa_3 hR
          have hE5 := el_b (fi := 13) (g := 5) (n := 2) (lo := 0) (hi := 5) (j := R) o22 hr0 rfl (by decide) TMa_5 hR
          have hE17 := el_z (fi := 25) (g := 17) (n := 2) (lo := 0) (hi := 1) (j := R) o22 hr0 rfl (by decide) TMa_17 hR
          have hE18 := el_z (fi := 26) (g := 18) (n := 2) (lo := 0) (hi := 1) (j := R) o22 hr0 rfl (by decide) TMa_18 hR
          have hE19 := el_z (fi := 27) (g := 19) (n := 2) (lo := 0) (hi := 1) (j := R) o22 hr0 rfl (by decide) TMa_19 hR
          have ti6 := ti2
          unfold TI at ti6
          obtain ⟨-, -, -, -, -, -, -, -, ti7⟩ := ti6
          by_cases hg : 1 ≤ vi w21 0 4
          · exact k74 _ hg o22 (fx_sm_tr (fx_sm_tr sm s4 (by decide)) s24 (by decide)) he2 ti2 ((show vi w21 0 49 = vi w 0 49 from (by rw [sm_f o2 o22 s24 (by decide)]; rw [sm_f how o2 s4 (by decide)])).trans h49) ((show vi w21 0 50 = vi w 0 50 from (by rw [sm_f o2 o22 s24 (by decide)]; rw [sm_f how o2 s4 (by decide)])).trans h50)
          · exact ih _ (by omega) o22 (fx_sm_tr (fx_sm_tr sm s4 (by decide)) s24 (by decide)) he2 ti2 ((show vi w21 0 49 = vi w 0 49 from (by rw [sm_f o2 o22 s24 (by decide)]; rw [sm_f how o2 s4 (by decide)])).trans h49) ((show vi w21 0 50 = vi w 0 50 from (by rw [sm_f o2 o22 s24 (by decide)]; rw [sm_f how o2 s4 (by decide)])).trans h50)
      · obtain ⟨v25, rfl, hv26⟩ := hrv6
        obtain ⟨z27, rfl, b28, b29, b30⟩ := ok_iz hv26
        simp only [rg] at b30
        obtain rfl : z27 = 0 := by omega
        have hf31 := fs_t hnd o2 hr0 rfl hfs8
        refine hr_norm (st' := [zv (0)]) rfl ?_
        refine hr_if C 95 dX12_table_78 (by decide) ⟨by omega, by omega⟩ rfl (fun c32 => ?_) (fun c32 => absurd (show ¬ (0 : Int) = 0 from c32) (by omega))
        have c32 : (0 : Int) = 0 := c32
        refine hr_pick (lv' := [(0, .ref r)]) [0] rfl ?_
        exact k95 _ o2 (fx_sm_tr sm s4 (by decide)) (by rw [sm_f how o2 s4 (by decide)]; omega) (TI_x (d := 0) ti (by rw [sm_f how o2 s4 (by decide)]) (by rw [sm_f how o2 s4 (by decide)]) (by rw [sm_f how o2 s4 (by decide)]) (by omega) (fun j => by rw [Int.add_zero, ite_self]; exact (by rw [sm_a how o2 s4 TMa_3 (by decide)])) (by rw [show vi w1 4 R = vi w 4 R from (by rw [sm_a how o2 s4 TMa_4 (by decide)])]; have q := ti; unfold TI at q; obtain ⟨-, -, -, -, -, -, -, -, q⟩ := q; exact q) (fun j => (by rw [sm_a how o2 s4 TMa_5 (by decide)])) (fun j => (by rw [sm_a how o2 s4 TMa_13 (by decide)])) (fun j => (by rw [sm_a how o2 s4 TMa_14 (by decide)])) (fun j => (by rw [sm_a how o2 s4 TMa_15 (by decide)])) (fun j => (by rw [sm_a how o2 s4 TMa_16 (by decide)])) (fun j => (by rw [sm_a how o2 s4 TMa_18 (by decide)])) (fun j => (by rw [sm_a how o2 s4 TMa_21 (by decide)]))) ((show vi w1 0 49 = vi w 0 49 from (by rw [sm_f how o2 s4 (by decide)])).trans h49) ((show vi w1 0 50 = vi w 0 50 from (by rw [sm_f how o2 s4 (by decide)])).trans h50)
  have k46 : ∀ (w : va_W), fx_wo (gsM, TM, cy, fun _ => True) ad w → fx_sm (gsM, TM, cy, fun _ => True) [(12, 3), (12, 4), (12, 5), (1000, 2)] ws w → HW l E ad D cy (va_A ws s.heap.size) s.heap p e ({ frames := 7, cells := 0, slots := 0, locals := 151 }) s m ([.ref r]).toArray below meth c (MQ below (hQ ad D cy (fun _ ws rv ws1 => fx_sm (gsM, TM, cy, fun _ => True) [(12, 4), (12, 5), (12, 6), (12, 7), (12, 8), (12, 9), (12, 10), (12, 36), (12, 37), (12, 38), (12, 39), (1000, 6), (1000, 21), (1000, 22), (1000, 23), (1000, 24), (1000, 15), (1000, 16), (1000, 3), (1000, 4), (1000, 5), (1000, 7), (1000, 8), (1000, 9), (1000, 10), (1000, 11), (1000, 12), (1000, 13), (1000, 14), (1000, 17), (1000, 18), (1000, 19), (1000, 20), (12, 2), (12, 3), (12, 34), (12, 35), (12, 49), (12, 50), (12, 55), (12, 69), (1000, 2), (1000, 26), (1000, 48)] ws ws1 ∧ (∃ z, rv = some (zv z) ∧ -1 ≤ z ∧ z ≤ 5) ∧ imAU ws1 ∧ imSW ws1 ∧ imWF ws1 ∧ imRg ws1) ([.ref r]) ws s.heap.size) ([.ref r]).toArray s 0 0 (va_A ws s.heap.size)) cX12_table 2 yX12_table.cls 46 [(0, .ref r)] [] w := by
    intro w how sm
    refine hr_aln C 0 dX12_table_46 rfl rfl rfl ?_
    refine hr_ic C dX12_table_47 rfl ?_
    refine hr_pI (lo := 0) (hi := 1600) C hr0 TM0 rfl ⟨by decide, by decide⟩ pl_X12_271 dX12_table_48 (by omega) (by omega) rfl (fun w1 o2 s3 e4 => ?_)
    refine hr_aln C 0 dX12_table_51 rfl rfl rfl ?_
    refine hr_ic C dX12_table_52 rfl ?_
    refine hr_pI (lo := 0) (hi := 1601) C hr0 TM0 rfl ⟨by decide, by decide⟩ pl_X12_203 dX12_table_53 (by omega) (by omega) rfl (fun w5 o6 s7 e8 => ?_)
    refine hr_aln C 0 dX12_table_56 rfl rfl rfl ?_
    refine hr_ic C dX12_table_57 rfl ?_
    refine hr_aln C 0 dX12_table_58 rfl rfl rfl ?_
    refine hr_gI (lo := 0) (hi := 1) C hr0 TM0 rfl fl_X12_274 dX12_table_59 rfl (fun b9 b10 => ?_)
    have q11 : vi w5 0 34 = vi ws 0 34 := by rw [e8, if_neg (by omega)]; rw [e4, if_neg (by omega)]; rw [sm_f hwo how sm (by decide)]
    rw [q11] at b9 b10 ⊢
    refine hr_sub C dX12_table_62 rfl ?_
    refine hr_pI (lo := 0) (hi := 1) C hr0 TM0 rfl ⟨by decide, by decide⟩ pl_X12_265 dX12_table_63 (by omega) (by omega) rfl (fun w12 o13 s14 e15 => ?_)
    refine hr_aln C 0 dX12_table_66 rfl rfl rfl ?_
    refine hr_cV (As := []) (rest := []) C (h_clearBank h r hr0) ⟨by decide, by decide⟩ iV_X12_clearBank g_X12_161 TM0 hr0 dX12_table_67 rfl rfl (Nat.le_of_ble_eq_true rfl) rfl ⟨rfl, trivial⟩ (fun w16 rv o17 q18 => ?_)
    obtain ⟨s19, rfl, c36, c3, c4, c5, c17, c18, c19⟩ := q18
    have q35 : vi w12 0 35 = 1 - vi ws 0 34 := (by rw [e15, if_pos ⟨rfl, rfl⟩])
    have hTX : Int.toNat (vi w12 0 35) = R := by omega
    refine hr_norm (st' := []) rfl ?_
    refine hr_aln C 0 dX12_table_70 rfl rfl rfl ?_
    have h7q20 := fl_b (fi := 7) (lo := 0) (hi := 1601) o17 hr0 rfl
    have h7q21 : vi w16 0 7 = 0 := (by rw [sm_f o13 o17 s19 (by decide)]; rw [e15, if_neg (by omega)]; rw [e8, if_pos ⟨rfl, rfl⟩])
    refine hr_cV (As := []) (rest := []) C (hM_fx (km292 h)) ⟨by decide, by decide⟩ iV_X12_goOn g_X12_245 TM0 hr0 dX12_table_71 rfl rfl (Nat.le_of_ble_eq_true rfl) rfl ⟨(ty_cons (ok_r hr0 (by decide) (by decide)) ty_nil), (fs_f o17 hr0 rfl ⟨_, _, rfl⟩ (by omega) (by omega))⟩ (fun w22 rv o23 q24 => ?_)
    obtain ⟨s25, po, hpo26, hrv27, hty28, rt, hfs29⟩ := q24
    replace s25 : fx_sm (gsM, TM, cy, fun _ => True) [(12, 6), (12, 7), (12, 8), (12, 9), (12, 10)] w16 w22 := s25
    simp only [km292_c, List.mem_cons, List.not_mem_nil, or_false] at hpo26
    subst hpo26
    obtain rfl := hrv27
    obtain ⟨⟨_, u30⟩, av31, g32, u33⟩ := fs_u (v0 := .ref r) rfl hfs29
    have hf34 := fs_t hnd o23 hr0 rfl u30
    have hf35 := fs_t hnd o23 hr0 g32 u33
    refine hr_norm (st' := []) rfl ?_
    have d3 : ∀ j : Nat, vi w22 3 j = if j = R then 0 else vi ws 3 j := fun j => by rw [show vi w22 3 j = vi w16 3 j from (by rw [sm_a o17 o23 s25 TMa_3 (by decide)]), c3, hTX, show vi w12 3 j = vi ws 3 j from (by rw [e15, if_neg (by omega)]; rw [e8, if_neg (by omega)]; rw [e4, if_neg (by omega)]; rw [sm_a hwo how sm TMa_3 (by decide)])]
    have d4 : ∀ j : Nat, vi w22 4 j = if j = R then 0 else vi ws 4 j := fun j => by rw [show vi w22 4 j = vi w16 4 j from (by rw [sm_a o17 o23 s25 TMa_4 (by decide)]), c4, hTX, show vi w12 4 j = vi ws 4 j from (by rw [e15, if_neg (by omega)]; rw [e8, if_neg (by omega)]; rw [e4, if_neg (by omega)]; rw [sm_a hwo how sm TMa_4 (by decide)])]
    have d5 : ∀ j : Nat, vi w22 5 j = if j = R then 0 else vi ws 5 j := fun j => by rw [show vi w22 5 j = vi w16 5 j from (by rw [sm_a o17 o23 s25 TMa_5 (by decide)]), c5, hTX, show vi w12 5 j = vi ws 5 j from (by rw [e15, if_neg (by omega)]; rw [e8, if_neg (by omega)]; rw [e4, if_neg (by omega)]; rw [sm_a hwo how sm TMa_5 (by decide)])]
    have d18 : ∀ j : Nat, vi w22 18 j = if j = R then 0 else vi ws 18 j := fun j => by rw [show vi w22 18 j = vi w16 18 j from (by rw [sm_a o17 o23 s25 TMa_18 (by decide)]), c18, hTX, show vi w12 18 j = vi ws 18 j from (by rw [e15, if_neg (by omega)]; rw [e8, if_neg (by omega)]; rw [e4, if_neg (by omega)]; rw [sm_a hwo how sm TMa_18 (by decide)])]
    have ti : TI ws w22 R := TI_0 ((show vi w22 0 35 = 1 - vi ws 0 34 from (by rw [sm_f o17 o23 s25 (by decide)]; rw [sm_f o13 o17 s19 (by decide)]; rw [e15, if_pos ⟨rfl, rfl⟩])).trans hRe.symm) (by rw [sm_f o17 o23 s25 (by decide)]; rw [sm_f o13 o17 s19 (by decide)]; rw [e15, if_neg (by omega)]; rw [e8, if_neg (by omega)]; rw [e4, if_neg (by omega)]; rw [sm_f hwo how sm (by decide)]) ((show vi w22 0 36 = vi w16 0 36 from (by rw [sm_f o17 o23 s25 (by decide)])).trans (by omega)) d3 d4 d5 d18 (fun j => (by rw [sm_a o17 o23 s25 TMa_13 (by decide)]; rw [sm_a o13 o17 s19 TMa_13 (by decide)]; rw [e15, if_neg (by omega)]; rw [e8, if_neg (by omega)]; rw [e4, if_neg (by omega)]; rw [sm_a hwo how sm TMa_13 (by decide)])) (fun j => (by rw [sm_a o17 o23 s25 TMa_14 (by decide)]; rw [sm_a o13 o17 s19 TMa_14 (by decide)]; rw [e15, if_neg (by omega)]; rw [e8, if_neg (by omega)]; rw [e4, if_neg (by omega)]; rw [sm_a hwo how sm TMa_14 (by decide)])) (fun j => (by rw [sm_a o17 o23 s25 TMa_15 (by decide)]; rw [sm_a o13 o17 s19 TMa_15 (by decide)]; rw [e15, if_neg (by omega)]; rw [e8, if_neg (by omega)]; rw [e4, if_neg (by omega)]; rw [sm_a hwo how sm TMa_15 (by decide)])) (fun j => (by rw [sm_a o17 o23 s25 TMa_16 (by decide)]; rw [sm_a o13 o17 s19 TMa_16 (by decide)]; rw [e15, if_neg (by omega)]; rw [e8, if_neg (by omega)]; rw [e4, if_neg (by omega)]; rw [sm_a hwo how sm TMa_16 (by decide)])) (fun j => (by rw [sm_a o17 o23 s25 TMa_21 (by decide)]; rw [sm_a o13 o17 s19 TMa_21 (by decide)]; rw [e15, if_neg (by omega)]; rw [e8, if_neg (by omega)]; rw [e4, if_neg (by omega)]; rw [sm_a hwo how sm TMa_21 (by decide)]))
    refine hr_pick (lv' := [(0, .ref r)]) [0] rfl ?_
    exact loop _ _ (Nat.lt_succ_self _) o23 (fx_sm_tr (fx_sm_tr (fx_sm_tr (fx_sm_tr (fx_sm_tr (fx_sm_tr fx_sm_refl sm (by decide)) s3 (by decide)) s7 (by decide)) s14 (by decide)) s19 (by decide)) s25 (by decide)) (by omega) ti (by rw [sm_f o17 o23 s25 (by decide)]; rw [sm_f o13 o17 s19 (by decide)]; rw [e15, if_neg (by omega)]; rw [e8, if_neg (by omega)]; rw [e4, if_neg (by omega)]; rw [sm_f hwo how sm (by decide)]) (by rw [sm_f o17 o23 s25 (by decide)]; rw [sm_f o13 o17 s19 (by decide)]; rw [e15, if_neg (by omega)]; rw [e8, if_neg (by omega)]; rw [e4, if_neg (by omega)]; rw [sm_f hwo how sm (by decide)])
  have loop1 : ∀ (q : Nat) (k : Int) (w : va_W), (1600 - k).toNat < q → fx_wo (gsM, TM, cy, fun _ => True) ad w → fx_sm (gsM, TM, cy, fun _ => True) [(12, 3), (12, 4), (12, 5), (1000, 2)] ws w → 0 ≤ k → k ≤ 1600 → HW l E ad D cy (va_A ws s.heap.size) s.heap p e ({ frames := 7, cells := 0, slots := 0, locals := 151 }) s m ([.ref r]).toArray below meth c (MQ below (hQ ad D cy (fun _ ws rv ws1 => fx_sm (gsM, TM, cy, fun _ => True) [(12, 4), (12, 5), (12, 6), (12, 7), (12, 8), (12, 9), (12, 10), (12, 36), (12, 37), (12, 38), (12, 39), (1000, 6), (1000, 21), (1000, 22), (1000, 23), (1000, 24), (1000, 15), (1000, 16), (1000, 3), (1000, 4), (1000, 5), (1000, 7), (1000, 8), (1000, 9), (1000, 10), (1000, 11), (1000, 12), (1000, 13), (1000, 14), (1000, 17), (1000, 18), (1000, 19), (1000, 20), (12, 2), (12, 3), (12, 34), (12, 35), (12, 49), (12, 50), (12, 55), (12, 69), (1000, 2), (1000, 26), (1000, 48)] ws ws1 ∧ (∃ z, rv = some (zv z) ∧ -1 ≤ z ∧ z ≤ 5) ∧ imAU ws1 ∧ imSW ws1 ∧ imWF ws1 ∧ imRg ws1) ([.ref r]) ws s.heap.size) ([.ref r]).toArray s 0 0 (va_A ws s.heap.size)) cX12_table 2 yX12_table.cls 20 [(0, .ref r), (1, zv k)] [] w := by
    intro q
    induction q with
    | zero => intro k w hq; omega
    | succ q ih =>
      intro k w hq how sm k0 k1
      refine hr_iln C 1 dX12_table_20 rfl rfl rfl ?_
      refine hr_aln C 0 dX12_table_21 rfl rfl rfl ?_
      refine hr_gI (lo := 0) (hi := 1600) C hr0 TM0 rfl fl_X12_167 dX12_table_22 rfl (fun b1 b2 => ?_)
      refine hr_cmp C 46 dX12_table_25 (by decide) ⟨by omega, by omega⟩ ⟨by omega, by omega⟩ rfl (fun c3 => ?_) (fun c3 => ?_)
      · have c3 : (vi w 0 3 : Int) ≤ k := c3
        refine hr_pick (lv' := [(0, .ref r)]) [0] rfl ?_
        exact k46 _ how sm
      · have c3 : (k : Int) < vi w 0 3 := c3
        refine hr_aln C 0 dX12_table_28 rfl rfl rfl ?_
        refine hr_gA (g := 2) C hr0 TM0 rfl (by decide) fl_X12_13 dX12_table_29 rfl (fun a4 ha5 => ?_)
        refine hr_iln C 1 dX12_table_32 rfl rfl rfl ?_
        refine hr_aln C 0 dX12_table_33 rfl rfl rfl ?_
        refine hr_gA (g := 1) C hr0 TM0 rfl (by decide) fl_X12_7 dX12_table_34 rfl (fun a6 ha7 => ?_)
        refine hr_iln C 1 dX12_table_37 rfl rfl rfl ?_
        refine hr_bld C ha7 TMa_1 (by omega) (by omega) (by decide) dX12_table_38 rfl ?_
        refine hr_bst C ha5 TMa_2 (by omega) (by omega) (by decide) dX12_table_39 rfl (fun w10 o11 s12 => ?_)
        refine hr_inc (lv' := [(1, zv (k + 1)), (0, .ref r)]) C 1 dX12_table_40 rfl (by decide) rfl rfl ?_
        refine hr_goto C 20 dX12_table_43 (by decide) ?_
        refine hr_pick (lv' := [(0, .ref r), (1, zv (k + 1))]) [1, 0] rfl ?_
        exact ih _ _ (by omega) o11 (fx_sm_tr sm s12 (by decide)) (by omega) (by omega)
  refine hr_aln C 0 dX12_table_0 rfl rfl rfl ?_
  refine hr_ic C dX12_table_1 rfl ?_
  refine hr_pI (lo := 0) (hi := 5) C hr0 TM0 rfl ⟨by decide, by decide⟩ pl_X12_170 dX12_table_2 (by omega) (by omega) rfl (fun w1 o2 s3 e4 => ?_)
  refine hr_aln C 0 dX12_table_5 rfl rfl rfl ?_
  refine hr_ic C dX12_table_6 rfl ?_
  refine hr_pI (lo := -2147483648) (hi := 2147483647) C hr0 TM0 rfl ⟨by decide, by decide⟩ pl_X12_16 dX12_table_7 (by omega) (by omega) rfl (fun w5 o6 s7 e8 => ?_)
  refine hr_aln C 0 dX12_table_10 rfl rfl rfl ?_
  refine hr_aln C 0 dX12_table_11 rfl rfl rfl ?_
  refine hr_gI (lo := 0) (hi := 1600) C hr0 TM0 rfl fl_X12_271 dX12_table_12 rfl (fun b9 b10 => ?_)
  have q11 : vi w5 0 2 = vi ws 0 2 := by rw [e8, if_neg (by omega)]; rw [e4, if_neg (by omega)]
  rw [q11] at b9 b10 ⊢
  refine hr_pI (lo := 0) (hi := 1600) C hr0 TM0 rfl ⟨by decide, by decide⟩ pl_X12_167 dX12_table_15 (by omega) (by omega) rfl (fun w12 o13 s14 e15 => ?_)
  refine hr_ic C dX12_table_18 rfl ?_
  refine hr_isn (lv' := [(1, zv (0)), (0, .ref r)]) C dX12_table_19 rfl (by decide) rfl rfl ?_
  refine hr_pick (lv' := [(0, .ref r), (1, zv (0))]) [1, 0] rfl ?_
  exact loop1 _ _ _ (Nat.lt_succ_self _) o13 (fx_sm_tr (fx_sm_tr (fx_sm_tr fx_sm_refl s3 (by decide)) s7 (by decide)) s14 (by decide)) (by omega) (by omega)
