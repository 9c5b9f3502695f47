theorem m_659 : Cond.methodLink RX12 280 yX12_isFull ∈ wsL_law := in_wsL_law_r28 _ (List.mem_of_getElem? (i := 11) rfl)
theorem m_660 : Cond.instanceMethod yX12_isFull ∈ wsL_law := in_wsL_law_r28 _ (List.mem_of_getElem? (i := 12) rfl)
theorem m_661 : Cond.selects RX12 yX12_isFull yX12_isFull ∈ wsL_law := in_wsL_law_r28 _ (List.mem_of_getElem? (i := 13) rfl)
theorem m_662 : Cond.code yX12_isFull cX12_isFull 1 (some .boolean) ∈ wsL_law := in_wsL_law_r28 _ (List.mem_of_getElem? (i := 14) rfl)
theorem m_675 : Cond.methodLink RX12 283 yX12_readSaying ∈ wsL_law := in_wsL_law_r29 _ (List.mem_of_getElem? (i := 3) rfl)
theorem m_676 : Cond.instanceMethod yX12_readSaying ∈ wsL_law := in_wsL_law_r29 _ (List.mem_of_getElem? (i := 4) rfl)
theorem m_677 : Cond.selects RX12 yX12_readSaying yX12_readSaying ∈ wsL_law := in_wsL_law_r29 _ (List.mem_of_getElem? (i := 5) rfl)
theorem m_678 : Cond.code yX12_readSaying cX12_readSaying 3 none ∈ wsL_law := in_wsL_law_r29 _ (List.mem_of_getElem? (i := 6) rfl)
theorem m_695 : Cond.methodLink RX12 286 yX12_readBeside ∈ wsL_law := in_wsL_law_r29 _ (List.mem_of_getElem? (i := 23) rfl)
theorem m_696 : Cond.instanceMethod yX12_readBeside ∈ wsL_law := in_wsL_law_r30 _ (List.mem_of_getElem? (i := 0) rfl)
theorem m_697 : Cond.selects RX12 yX12_readBeside yX12_readBeside ∈ wsL_law := in_wsL_law_r30 _ (List.mem_of_getElem? (i := 1) rfl)
theorem m_698 : Cond.code yX12_readBeside cX12_readBeside 4 none ∈ wsL_law := in_wsL_law_r30 _ (List.mem_of_getElem? (i := 2) rfl)
theorem m_711 : Cond.methodLink RX12 289 yX12_readWords ∈ wsL_law := in_wsL_law_r30 _ (List.mem_of_getElem? (i := 15) rfl)
theorem m_712 : Cond.instanceMethod yX12_readWords ∈ wsL_law := in_wsL_law_r30 _ (List.mem_of_getElem? (i := 16) rfl)
theorem m_713 : Cond.selects RX12 yX12_readWords yX12_readWords ∈ wsL_law := in_wsL_law_r30 _ (List.mem_of_getElem? (i := 17) rfl)
theorem m_714 : Cond.code yX12_readWords cX12_readWords 7 (some .int) ∈ wsL_law := in_wsL_law_r30 _ (List.mem_of_getElem? (i := 18) rfl)
theorem m_715 : Cond.methodLink RX12 293 yX12_readRule ∈ wsL_law := in_wsL_law_r30 _ (List.mem_of_getElem? (i := 19) rfl)
theorem m_716 : Cond.instanceMethod yX12_readRule ∈ wsL_law := in_wsL_law_r30 _ (List.mem_of_getElem? (i := 20) rfl)
theorem m_717 : Cond.selects RX12 yX12_readRule yX12_readRule ∈ wsL_law := in_wsL_law_r30 _ (List.mem_of_getElem? (i := 21) rfl)
theorem m_718 : Cond.code yX12_readRule cX12_readRule 2 none ∈ wsL_law := in_wsL_law_r30 _ (List.mem_of_getElem? (i := 22) rfl)
theorem iV_X12_readSaying : yX12_readSaying.cls = RX12 ∧ yX12_readSaying.cls ≠ "java/lang/invoke/MethodHandle" ∧ yX12_readSaying.cls ≠ "java/lang/invoke/VarHandle" ∧ (parseMethodDescriptor yX12_readSaying.desc).map (fun d => d.parameters.length) = some 0 := by decide +kernel
theorem iV_X12_readBeside : yX12_readBeside.cls = RX12 ∧ yX12_readBeside.cls ≠ "java/lang/invoke/MethodHandle" ∧ yX12_readBeside.cls ≠ "java/lang/invoke/VarHandle" ∧ (parseMethodDescriptor yX12_readBeside.desc).map (fun d => d.parameters.length) = some 0 := by decide +kernel
theorem iV_X12_readWords : yX12_readWords.cls = RX12 ∧ yX12_readWords.cls ≠ "java/lang/invoke/MethodHandle" ∧ yX12_readWords.cls ≠ "java/lang/invoke/VarHandle" ∧ (parseMethodDescriptor yX12_readWords.desc).map (fun d => d.parameters.length) = some 3 := by decide +kernel
theorem iV_X12_readRule : yX12_readRule.cls = RX12 ∧ yX12_readRule.cls ≠ "java/lang/invoke/MethodHandle" ∧ yX12_readRule.cls ≠ "java/lang/invoke/VarHandle" ∧ (parseMethodDescriptor yX12_readRule.desc).map (fun d => d.parameters.length) = some 1 := by decide +kernel
theorem iV_X12_isFull : yX12_isFull.cls = RX12 ∧ yX12_isFull.cls ≠ "java/lang/invoke/MethodHandle" ∧ yX12_isFull.cls ≠ "java/lang/invoke/VarHandle" ∧ (parseMethodDescriptor yX12_isFull.desc).map (fun d => d.parameters.length) = some 0 := by decide +kernel
theorem g_X12_283 : GoodIn wsL_law (wsV RX12 283 RX12 yX12_readSaying (.code yX12_readSaying cX12_readSaying 3 none :: wsL_law)) := gdV m_675 m_676 m_677 m_5 m_678
theorem g_X12_286 : GoodIn wsL_law (wsV RX12 286 RX12 yX12_readBeside (.code yX12_readBeside cX12_readBeside 4 none :: wsL_law)) := gdV m_695 m_696 m_697 m_5 m_698
theorem g_X12_289 : GoodIn wsL_law (wsV RX12 289 RX12 yX12_readWords (.code yX12_readWords cX12_readWords 7 (some .int) :: wsL_law)) := gdV m_711 m_712 m_713 m_5 m_714
theorem g_X12_293 : GoodIn wsL_law (wsV RX12 293 RX12 yX12_readRule (.code yX12_readRule cX12_readRule 2 none :: wsL_law)) := gdV m_715 m_716 m_717 m_5 m_718
theorem g_X12_280 : GoodIn wsL_law (wsV RX12 280 RX12 yX12_isFull (.code yX12_isFull cX12_isFull 1 (some .boolean) :: wsL_law)) := gdV m_659 m_660 m_661 m_5 m_662
theorem dX12_readLine_32 : decode cX12_readLine 32 = .ok (.aload_n 0, 1) := by decide +kernel
theorem dX12_readLine_33 : decode cX12_readLine 33 = .ok (.invokevirtual 245, 3) := by decide +kernel
theorem dX12_readLine_36 : decode cX12_readLine 36 = .ok (.lload_n 1, 1) := by decide +kernel
theorem dX12_readLine_37 : decode cX12_readLine 37 = .ok (.ldc2_w 173, 3) := by decide +kernel
theorem dX12_readLine_40 : decode cX12_readLine 40 = .ok (.lcmp, 1) := by decide +kernel
theorem dX12_readLine_41 : decode cX12_readLine 41 = .ok (.ifCond .ne 7, 3) := by decide +kernel
theorem dX12_readLine_44 : decode cX12_readLine 44 = .ok (.aload_n 0, 1) := by decide +kernel
theorem dX12_readLine_45 : decode cX12_readLine 45 = .ok (.invokevirtual 283, 3) := by decide +kernel
theorem dX12_readLine_48 : decode cX12_readLine 48 = .ok (.lload_n 1, 1) := by decide +kernel
theorem dX12_readLine_49 : decode cX12_readLine 49 = .ok (.ldc2_w 177, 3) := by decide +kernel
theorem dX12_readLine_52 : decode cX12_readLine 52 = .ok (.lcmp, 1) := by decide +kernel
theorem dX12_readLine_53 : decode cX12_readLine 53 = .ok (.ifCond .ne 7, 3) := by decide +kernel
theorem dX12_readLine_60 : decode cX12_readLine 60 = .ok (.lload_n 1, 1) := by decide +kernel
theorem dX12_readLine_61 : decode cX12_readLine 61 = .ok (.ldc2_w 179, 3) := by decide +kernel
theorem dX12_readLine_64 : decode cX12_readLine 64 = .ok (.lcmp, 1) := by decide +kernel
theorem dX12_readLine_65 : decode cX12_readLine 65 = .ok (.ifCond .ne 39, 3) := by decide +kernel
theorem dX12_readLine_104 : decode cX12_readLine 104 = .ok (.lload_n 1, 1) := by decide +kernel
theorem dX12_readLine_105 : decode cX12_readLine 105 = .ok (.ldc2_w 181, 3) := by decide +kernel
theorem dX12_readLine_108 : decode cX12_readLine 108 = .ok (.lcmp, 1) := by decide +kernel
theorem dX12_readLine_109 : decode cX12_readLine 109 = .ok (.ifCond .ne 53, 3) := by decide +kernel
theorem dX12_readLine_162 : decode cX12_readLine 162 = .ok (.lload_n 1, 1) := by decide +kernel
theorem dX12_readLine_163 : decode cX12_readLine 163 = .ok (.ldc2_w 183, 3) := by decide +kernel
theorem dX12_readLine_166 : decode cX12_readLine 166 = .ok (.lcmp, 1) := by decide +kernel
theorem dX12_readLine_167 : decode cX12_readLine 167 = .ok (.ifCond .ne 18, 3) := by decide +kernel
theorem dX12_readLine_185 : decode cX12_readLine 185 = .ok (.lload_n 1, 1) := by decide +kernel
theorem dX12_readLine_186 : decode cX12_readLine 186 = .ok (.ldc2_w 185, 3) := by decide +kernel
theorem dX12_readLine_189 : decode cX12_readLine 189 = .ok (.lcmp, 1) := by decide +kernel
theorem dX12_readLine_190 : decode cX12_readLine 190 = .ok (.ifCond .ne 30, 3) := by decide +kernel
theorem dX12_readLine_220 : decode cX12_readLine 220 = .ok (.aload_n 0, 1) := by decide +kernel
theorem dX12_readLine_221 : decode cX12_readLine 221 = .ok (.aload_n 0, 1) := by decide +kernel
theorem dX12_readLine_222 : decode cX12_readLine 222 = .ok (.bipush 59, 2) := by decide +kernel
theorem dX12_readLine_224 : decode cX12_readLine 224 = .ok (.invokevirtual 262, 3) := by decide +kernel
theorem dX12_readLine_227 : decode cX12_readLine 227 = .ok (.invokevirtual 254, 3) := by decide +kernel
theorem dX12_readLine_230 : decode cX12_readLine 230 = .ok (.return_, 1) := by decide +kernel
theorem dX12_readLine_56 : decode cX12_readLine 56 = .ok (.aload_n 0, 1) := by decide +kernel
theorem dX12_readLine_57 : decode cX12_readLine 57 = .ok (.invokevirtual 286, 3) := by decide +kernel
theorem dX12_readLine_68 : decode cX12_readLine 68 = .ok (.aload_n 0, 1) := by decide +kernel
theorem dX12_readLine_69 : decode cX12_readLine 69 = .ok (.getfield 63, 3) := by decide +kernel
theorem dX12_readLine_72 : decode cX12_readLine 72 = .ok (.aload_n 0, 1) := by decide +kernel
theorem dX12_readLine_73 : decode cX12_readLine 73 = .ok (.getfield 265, 3) := by decide +kernel
theorem dX12_readLine_76 : decode cX12_readLine 76 = .ok (.iconst 1, 1) := by decide +kernel
theorem dX12_readLine_77 : decode cX12_readLine 77 = .ok (.bastore, 1) := by decide +kernel
theorem dX12_readLine_78 : decode cX12_readLine 78 = .ok (.aload_n 0, 1) := by decide +kernel
theorem dX12_readLine_79 : decode cX12_readLine 79 = .ok (.getfield 36, 3) := by decide +kernel
theorem dX12_readLine_82 : decode cX12_readLine 82 = .ok (.aload_n 0, 1) := by decide +kernel
theorem dX12_readLine_83 : decode cX12_readLine 83 = .ok (.getfield 265, 3) := by decide +kernel
theorem dX12_readLine_86 : decode cX12_readLine 86 = .ok (.aload_n 0, 1) := by decide +kernel
theorem dX12_readLine_87 : decode cX12_readLine 87 = .ok (.aload_n 0, 1) := by decide +kernel
theorem dX12_readLine_88 : decode cX12_readLine 88 = .ok (.getfield 48, 3) := by decide +kernel
theorem dX12_readLine_91 : decode cX12_readLine 91 = .ok (.bipush 12, 2) := by decide +kernel
theorem dX12_readLine_93 : decode cX12_readLine 93 = .ok (.aload_n 0, 1) := by decide +kernel
theorem dX12_readLine_94 : decode cX12_readLine 94 = .ok (.getfield 265, 3) := by decide +kernel
theorem dX12_readLine_97 : decode cX12_readLine 97 = .ok (.imul, 1) := by decide +kernel
theorem dX12_readLine_98 : decode cX12_readLine 98 = .ok (.bipush 12, 2) := by decide +kernel
theorem dX12_readLine_100 : decode cX12_readLine 100 = .ok (.invokevirtual 289, 3) := by decide +kernel
theorem dX12_readLine_103 : decode cX12_readLine 103 = .ok (.iastore, 1) := by decide +kernel
theorem dX12_readLine_112 : decode cX12_readLine 112 = .ok (.iconst 5, 1) := by decide +kernel
theorem dX12_readLine_113 : decode cX12_readLine 113 = .ok (.aload_n 0, 1) := by decide +kernel
theorem dX12_readLine_114 : decode cX12_readLine 114 = .ok (.getfield 265, 3) := by decide +kernel
theorem dX12_readLine_117 : decode cX12_readLine 117 = .ok (.imul, 1) := by decide +kernel
theorem dX12_readLine_118 : decode cX12_readLine 118 = .ok (.aload_n 0, 1) := by decide +kernel
theorem dX12_readLine_119 : decode cX12_readLine 119 = .ok (.getfield 27, 3) := by decide +kernel
theorem dX12_readLine_122 : decode cX12_readLine 122 = .ok (.aload_n 0, 1) := by decide +kernel
theorem dX12_readLine_123 : decode cX12_readLine 123 = .ok (.getfield 265, 3) := by decide +kernel
theorem dX12_readLine_126 : decode cX12_readLine 126 = .ok (.iaload, 1) := by decide +kernel
theorem dX12_readLine_127 : decode cX12_readLine 127 = .ok (.iadd, 1) := by decide +kernel
theorem dX12_readLine_128 : decode cX12_readLine 128 = .ok (.istore_n 3, 1) := by decide +kernel
theorem dX12_readLine_129 : decode cX12_readLine 129 = .ok (.aload_n 0, 1) := by decide +kernel
theorem dX12_readLine_130 : decode cX12_readLine 130 = .ok (.getfield 51, 3) := by decide +kernel
theorem dX12_readLine_133 : decode cX12_readLine 133 = .ok (.iload_n 3, 1) := by decide +kernel
theorem dX12_readLine_134 : decode cX12_readLine 134 = .ok (.aload_n 0, 1) := by decide +kernel
theorem dX12_readLine_135 : decode cX12_readLine 135 = .ok (.aload_n 0, 1) := by decide +kernel
theorem dX12_readLine_136 : decode cX12_readLine 136 = .ok (.getfield 54, 3) := by decide +kernel
theorem dX12_readLine_139 : decode cX12_readLine 139 = .ok (.bipush 8, 2) := by decide +kernel
theorem dX12_readLine_141 : decode cX12_readLine 141 = .ok (.iload_n 3, 1) := by decide +kernel
theorem dX12_readLine_142 : decode cX12_readLine 142 = .ok (.imul, 1) := by decide +kernel
theorem dX12_readLine_143 : decode cX12_readLine 143 = .ok (.bipush 8, 2) := by decide +kernel
theorem dX12_readLine_145 : decode cX12_readLine 145 = .ok (.invokevirtual 289, 3) := by decide +kernel
theorem dX12_readLine_148 : decode cX12_readLine 148 = .ok (.iastore, 1) := by decide +kernel
theorem dX12_readLine_149 : decode cX12_readLine 149 = .ok (.aload_n 0, 1) := by decide +kernel
theorem dX12_readLine_150 : decode cX12_readLine 150 = .ok (.getfield 27, 3) := by decide +kernel
theorem dX12_readLine_153 : decode cX12_readLine 153 = .ok (.aload_n 0, 1) := by decide +kernel
theorem dX12_readLine_154 : decode cX12_readLine 154 = .ok (.getfield 265, 3) := by decide +kernel
theorem dX12_readLine_157 : decode cX12_readLine 157 = .ok (.dup2, 1) := by decide +kernel
theorem dX12_readLine_158 : decode cX12_readLine 158 = .ok (.iaload, 1) := by decide +kernel
theorem dX12_readLine_159 : decode cX12_readLine 159 = .ok (.iconst 1, 1) := by decide +kernel
theorem dX12_readLine_160 : decode cX12_readLine 160 = .ok (.iadd, 1) := by decide +kernel
theorem dX12_readLine_161 : decode cX12_readLine 161 = .ok (.iastore, 1) := by decide +kernel
theorem dX12_readLine_170 : decode cX12_readLine 170 = .ok (.aload_n 0, 1) := by decide +kernel
theorem dX12_readLine_171 : decode cX12_readLine 171 = .ok (.getfield 67, 3) := by decide +kernel
theorem dX12_readLine_174 : decode cX12_readLine 174 = .ok (.aload_n 0, 1) := by decide +kernel
theorem dX12_readLine_175 : decode cX12_readLine 175 = .ok (.getfield 265, 3) := by decide +kernel
theorem dX12_readLine_178 : decode cX12_readLine 178 = .ok (.iconst 1, 1) := by decide +kernel
theorem dX12_readLine_179 : decode cX12_readLine 179 = .ok (.bastore, 1) := by decide +kernel
theorem dX12_readLine_180 : decode cX12_readLine 180 = .ok (.aload_n 0, 1) := by decide +kernel
theorem dX12_readLine_181 : decode cX12_readLine 181 = .ok (.iconst 0, 1) := by decide +kernel
theorem dX12_readLine_182 : decode cX12_readLine 182 = .ok (.invokevirtual 293, 3) := by decide +kernel
theorem dX12_readLine_193 : decode cX12_readLine 193 = .ok (.aload_n 0, 1) := by decide +kernel
theorem dX12_readLine_194 : decode cX12_readLine 194 = .ok (.getfield 70, 3) := by decide +kernel
theorem dX12_readLine_197 : decode cX12_readLine 197 = .ok (.aload_n 0, 1) := by decide +kernel
theorem dX12_readLine_198 : decode cX12_readLine 198 = .ok (.getfield 265, 3) := by decide +kernel
theorem dX12_readLine_201 : decode cX12_readLine 201 = .ok (.iconst 1, 1) := by decide +kernel
theorem dX12_readLine_202 : decode cX12_readLine 202 = .ok (.bastore, 1) := by decide +kernel
theorem dX12_readLine_203 : decode cX12_readLine 203 = .ok (.aload_n 0, 1) := by decide +kernel
theorem dX12_readLine_204 : decode cX12_readLine 204 = .ok (.getfield 33, 3) := by decide +kernel
theorem dX12_readLine_207 : decode cX12_readLine 207 = .ok (.aload_n 0, 1) := by decide +kernel
theorem dX12_readLine_208 : decode cX12_readLine 208 = .ok (.getfield 265, 3) := by decide +kernel
theorem dX12_readLine_211 : decode cX12_readLine 211 = .ok (.aload_n 0, 1) := by decide +kernel
theorem dX12_readLine_212 : decode cX12_readLine 212 = .ok (.iconst 0, 1) := by decide +kernel
theorem dX12_readLine_213 : decode cX12_readLine 213 = .ok (.sipush 999, 3) := by decide +kernel
theorem dX12_readLine_216 : decode cX12_readLine 216 = .ok (.invokevirtual 258, 3) := by decide +kernel
theorem dX12_readLine_219 : decode cX12_readLine 219 = .ok (.iastore, 1) := by decide +kernel
theorem dX12_readLine_0 : decode cX12_readLine 0 = .ok (.aload_n 0, 1) := by decide +kernel
theorem dX12_readLine_1 : decode cX12_readLine 1 = .ok (.getfield 220, 3) := by decide +kernel
theorem dX12_readLine_4 : decode cX12_readLine 4 = .ok (.lstore_n 1, 1) := by decide +kernel
theorem dX12_readLine_5 : decode cX12_readLine 5 = .ok (.aload_n 0, 1) := by decide +kernel
theorem dX12_readLine_6 : decode cX12_readLine 6 = .ok (.getfield 213, 3) := by decide +kernel
theorem dX12_readLine_9 : decode cX12_readLine 9 = .ok (.iconst 3, 1) := by decide +kernel
theorem dX12_readLine_10 : decode cX12_readLine 10 = .ok (.if_icmp .ne 10, 3) := by decide +kernel
theorem dX12_readLine_20 : decode cX12_readLine 20 = .ok (.aload_n 0, 1) := by decide +kernel
theorem dX12_readLine_21 : decode cX12_readLine 21 = .ok (.invokevirtual 248, 3) := by decide +kernel
theorem dX12_readLine_24 : decode cX12_readLine 24 = .ok (.aload_n 0, 1) := by decide +kernel
theorem dX12_readLine_25 : decode cX12_readLine 25 = .ok (.invokevirtual 241, 3) := by decide +kernel
theorem dX12_readLine_28 : decode cX12_readLine 28 = .ok (.ifCond .ne 4, 3) := by decide +kernel
theorem dX12_readLine_31 : decode cX12_readLine 31 = .ok (.return_, 1) := by decide +kernel
theorem dX12_readLine_13 : decode cX12_readLine 13 = .ok (.aload_n 0, 1) := by decide +kernel
theorem dX12_readLine_14 : decode cX12_readLine 14 = .ok (.invokevirtual 280, 3) := by decide +kernel
theorem dX12_readLine_17 : decode cX12_readLine 17 = .ok (.ifCond .eq 7, 3) := by decide +kernel
set_option maxRecDepth 100000 in
set_option maxHeartbeats 4000000 in
theorem h_readLine {l : Launch} {E : (Nat → Prop) → State → Prop} {ad : List Nat} {D : va_G} {cy : Nat → ClassId} (h : fx_env E D classes (tys cy) nestW) (ws0 : va_W) (r R : Nat) (hr0 : ad[0]? = some r) (hR : R < 2) : hM l yX12_readLine cX12_readLine 4 none ({ frames := 6, cells := 0, slots := 0, locals := 128 }) E ad D cy (fun av ws => av = [.ref r] ∧ TI ws0 ws R ∧ vi ws 0 7 ≤ 1600) (fun _ ws rv ws1 => fx_sm (gsM, TM, cy, fun _ => True) [(12, 4), (12, 5), (12, 6), (12, 7), (12, 8), (12, 9), (12, 10), (12, 36), (12, 37), (12, 38), (12, 39), (1000, 6), (1000, 21), (1000, 22), (1000, 23), (1000, 24), (1000, 15), (1000, 16), (1000, 3), (1000, 4), (1000, 5), (1000, 7), (1000, 8), (1000, 9), (1000, 10), (1000, 11), (1000, 12), (1000, 13), (1000, 14), (1000, 17), (1000, 18), (1000, 19), (1000, 20)] ws ws1 ∧ rv = none ∧ vi ws1 0 7 ≤ 1600 ∧ TI ws0 ws1 R ∧ (1 ≤ vi ws1 0 4 ∨ vi ws 3 R + vi ws 4 R + vi ws 5 R + vi ws 17 R + vi ws 18 R + vi ws 19 R + 1 ≤ vi ws1 3 R + vi ws1 4 R + vi ws1 5 R + vi ws1 17 R + vi ws1 18 R + vi ws1 19 R)) := by
  refine hM_of h (by decide) ?_
  intro av ws p e s m below meth c hwo hnd hpre hlocks hr C
  obtain ⟨rfl, hpre⟩ := hpre
  refine ⟨Nat.le_of_ble_eq_true rfl, ?_⟩
  refine hr_pick (lv' := [(0, .ref r)]) [0] rfl ?_
  obtain ⟨ti, he⟩ := hpre
  have ti0 := ti
  unfold TI at ti0
  obtain ⟨⟨h35, -⟩, -, -, -, -, -, hT8, -, hT4⟩ := ti0
  have hT : Int.toNat (vi ws 0 35) = R := by omega
  have h7b := fl_b (fi := 7) (lo := 0) (hi := 1601) hwo hr0 rfl
  have h13 : ∀ j : Nat, j < 10 → vi ws 13 j ≤ 8 := fun j hj => (el_b (fi := 21) (g := 13) (n := 10) (lo := 0) (hi := 8) hwo hr0 rfl (by decide) TMa_13 hj).2
  have hE3 := el_b (fi := 11) (g := 3) (n := 2) (lo := 0) (hi := 9) (j := R) hwo hr0 rfl (by decide) TMa_3 (by omega)
  have hE5 := el_b (fi := 13) (g := 5) (n := 2) (lo := 0) (hi := 5) (j := R) hwo hr0 rfl (by decide) TMa_5 (by omega)
  have k_word : ∀ (x : Int64) (w : va_W), fx_wo (gsM, TM, cy, fun _ => True) ad w → fx_sm (gsM, TM, cy, fun _ => True) [(12, 4), (12, 5)] ws w → x.toInt = 2003792484 → ¬ vi ws 3 R = 9 → HW l E ad D cy (va_A ws s.heap.size) s.heap p e ({ frames := 6, cells := 0, slots := 0, locals := 128 }) s m ([.ref r]).toArray below meth c (MQ below (hQ ad D cy (fun _ ws rv ws1 => fx_sm (gsM, TM, cy, fun _ => True) [(12, 4), (12, 5), (12, 6), (12, 7), (12, 8), (12, 9), (12, 10), (12, 36), (12, 37), (12, 38), (12, 39), (1000, 6), (1000, 21), (1000, 22), (1000, 23), (1000, 24), (1000, 15), (1000, 16), (1000, 3), (1000, 4), (1000, 5), (1000, 7), (1000, 8), (1000, 9), (1000, 10), (1000, 11), (1000, 12), (1000, 13), (1000, 14), (1000, 17), (1000, 18), (1000, 19), (1000, 20)] ws ws1 ∧ rv = none ∧ vi ws1 0 7 ≤ 1600 ∧ TI ws0 ws1 R ∧ (1 ≤ vi ws1 0 4 ∨ vi ws 3 R + vi ws 4 R + vi ws 5 R + vi ws 17 R + vi ws 18 R + vi ws 19 R + 1 ≤ vi ws1 3 R + vi ws1 4 R + vi ws1 5 R + vi ws1 17 R + vi ws1 18 R + vi ws1 19 R)) ([.ref r]) ws s.heap.size) ([.ref r]).toArray s 0 0 (va_A ws s.heap.size)) cX12_readLine 4 yX12_readLine.cls 32 [(0, .ref r), (1, .long x)] [] w := by
    intro x w how sm hx hg
    refine hr_aln C 0 dX12_readLine_32 rfl rfl rfl ?_
    have h7q1 := fl_b (fi := 7) (lo := 0) (hi := 1601) how hr0 rfl
    have h7q2 : vi w 0 7 = vi ws 0 7 := (by rw [sm_f hwo how sm (by decide)])
    refine hr_cV (As := []) (rest := []) C (hM_fx (km292 h)) ⟨by decide, by decide⟩ iV_X12_goOn g_X12_245 TM0 hr0 dX12_readLine_33 rfl rfl (Nat.le_of_ble_eq_true rfl) rfl ⟨(ty_cons (ok_r hr0 (by decide) (by decide)) ty_nil), (fs_f how hr0 rfl ⟨_, _, rfl⟩ (by omega) (by omega))⟩ (fun w3 rv o4 q5 => ?_)
    obtain ⟨s6, po, hpo7, hrv8, hty9, rt, hfs10⟩ := q5
    replace s6 : fx_sm (gsM, TM, cy, fun _ => True) [(12, 6), (12, 7), (12, 8), (12, 9), (12, 10)] w w3 := s6
    simp only [km292_c, List.mem_cons, List.not_mem_nil, or_false] at hpo7
    subst hpo7
    obtain rfl := hrv8
    obtain ⟨⟨_, u11⟩, av12, g13, u14⟩ := fs_u (v0 := .ref r) rfl hfs10
    have hf15 := fs_t hnd o4 hr0 rfl u11
    have hf16 := fs_t hnd o4 hr0 g13 u14
    refine hr_norm (st' := []) rfl ?_
    refine hr_lln C 1 dX12_readLine_36 rfl rfl rfl ?_
    refine hr_ld2 C kc_X12_173 dX12_readLine_37 rfl ?_
    refine hr_lcq C dX12_readLine_40 rfl (fun z17 h18 h19 => ?_)
    replace h19 : z17 = 0 ↔ x.toInt = 2003792484 := h19
    obtain rfl : z17 = 0 := by omega
    refine hr_if C 48 dX12_readLine_41 (by decide) ⟨by omega, by omega⟩ rfl (fun c20 => absurd (show ¬ (0 : Int) = 0 from c20) (by omega)) (fun c20 => ?_)
    have c20 : (0 : Int) = 0 := c20
    refine hr_aln C 0 dX12_readLine_44 rfl rfl rfl ?_
    refine hr_cV (As := []) (rest := []) C (h_readSaying h r hr0) ⟨by decide, by decide⟩ iV_X12_readSaying g_X12_283 TM0 hr0 dX12_readLine_45 rfl rfl (Nat.le_of_ble_eq_true rfl) rfl ⟨rfl, (by rw [show vi w3 0 35 = vi ws 0 35 from (by rw [sm_f how o4 s6 (by decide)]; rw [sm_f hwo how sm (by decide)]), hT, show vi w3 3 R = vi ws 3 R from (by rw [sm_a how o4 s6 TMa_3 (by decide)]; rw [sm_a hwo how sm TMa_3 (by decide)])]; omega), (by omega)⟩ (fun w21 rv o22 q23 => ?_)
    obtain ⟨s24, rfl, he2, d, hd, a3⟩ := q23
    replace a3 : ∀ j : Nat, vi w21 3 j = if j = R then vi ws 3 j + d else vi ws 3 j := fun j => by rw [a3, show vi w3 0 35 = vi ws 0 35 from (by rw [sm_f how o4 s6 (by decide)]; rw [sm_f hwo how sm (by decide)]), hT, show vi w3 3 j = vi ws 3 j from (by rw [sm_a how o4 s6 TMa_3 (by decide)]; rw [sm_a hwo how sm TMa_3 (by decide)])]
    refine hr_norm (st' := []) rfl ?_
    refine hr_lln C 1 dX12_readLine_48 rfl rfl rfl ?_
    refine hr_ld2 C kc_X12_177 dX12_readLine_49 rfl ?_
    refine hr_lcq C dX12_readLine_52 rfl (fun z25 h26 h27 => ?_)
    replace h27 : z25 = 0 ↔ x.toInt = 108187867505765 := h27
    refine hr_if C 60 dX12_readLine_53 (by decide) ⟨by omega, by omega⟩ rfl (fun c28 => ?_) (fun c28 => absurd (show (z25 : Int) = 0 from c28) (by omega))
    have c28 : ¬ (z25 : Int) = 0 := c28
    refine hr_lln C 1 dX12_readLine_60 rfl rfl rfl ?_
    refine hr_ld2 C kc_X12_179 dX12_readLine_61 rfl ?_
    refine hr_lcq C dX12_readLine_64 rfl (fun z29 h30 h31 => ?_)
    replace h31 : z29 = 0 ↔ x.toInt = 7499639 := h31
    refine hr_if C 104 dX12_readLine_65 (by decide) ⟨by omega, by omega⟩ rfl (fun c32 => ?_) (fun c32 => absurd (show (z29 : Int) = 0 from c32) (by omega))
    have c32 : ¬ (z29 : Int) = 0 := c32
    refine hr_lln C 1 dX12_readLine_104 rfl rfl rfl ?_
    refine hr_ld2 C kc_X12_181 dX12_readLine_105 rfl ?_
    refine hr_lcq C dX12_readLine_108 rfl (fun z33 h34 h35 => ?_)
    replace h35 : z33 = 0 ↔ x.toInt = 1936484720 := h35
    refine hr_if C 162 dX12_readLine_109 (by decide) ⟨by omega, by omega⟩ rfl (fun c36 => ?_) (fun c36 => absurd (show (z33 : Int) = 0 from c36) (by omega))
    have c36 : ¬ (z33 : Int) = 0 := c36
    refine hr_lln C 1 dX12_readLine_162 rfl rfl rfl ?_
    refine hr_ld2 C kc_X12_183 dX12_readLine_163 rfl ?_
    refine hr_lcq C dX12_readLine_166 rfl (fun z37 h38 h39 => ?_)
    replace h39 : z37 = 0 ↔ x.toInt = 1835627379 := h39
    refine hr_if C 185 dX12_readLine_167 (by decide) ⟨by omega, by omega⟩ rfl (fun c40 => ?_) (fun c40 => absurd (show (z37 : Int) = 0 from c40) (by omega))
    have c40 : ¬ (z37 : Int) = 0 := c40
    refine hr_lln C 1 dX12_readLine_185 rfl rfl rfl ?_
    refine hr_ld2 C kc_X12_185 dX12_readLine_186 rfl ?_
    refine hr_lcq C dX12_readLine_189 rfl (fun z41 h42 h43 => ?_)
    replace h43 : z41 = 0 ↔ x.toInt = 1685217655 := h43
    refine hr_if C 220 dX12_readLine_190 (by decide) ⟨by omega, by omega⟩ rfl (fun c44 => ?_) (fun c44 => absurd (show (z41 : Int) = 0 from c44) (by omega))
    have c44 : ¬ (z41 : Int) = 0 := c44
    refine hr_aln C 0 dX12_readLine_220 rfl rfl rfl ?_
    refine hr_aln C 0 dX12_readLine_221 rfl rfl rfl ?_
    refine hr_bi C dX12_readLine_222 (by decide +kernel) rfl ?_
    refine hr_cV (As := [zv (59)]) (rest := [.ref r]) C (h_isSignHere h r (59) hr0 ⟨by omega, by omega⟩) ⟨by decide, by decide⟩ iV_X12_isSignHere g_X12_262 TM0 hr0 dX12_readLine_224 rfl rfl (Nat.le_of_ble_eq_true rfl) rfl ⟨rfl, trivial⟩ (fun w45 rv o46 q47 => ?_)
    obtain ⟨rfl, rfl⟩ := q47
    obtain ⟨t48, et49⟩ : ∃ t, t = (if vi w21 0 8 = 5 ∧ sgv w21 (vi w21 0 6) = 59 then 1 else 0 : Int) := ⟨_, rfl⟩
    rw [← et49]
    have e50 : (t48 = 1 ∧ (vi w21 0 8 = 5 ∧ sgv w21 (vi w21 0 6) = 59)) ∨ (t48 = 0 ∧ ¬ (vi w21 0 8 = 5 ∧ sgv w21 (vi w21 0 6) = 59)) := by rw [et49]; split <;> simp_all
    clear et49
    refine hr_norm (st' := [zv (t48), .ref r]) rfl ?_
    have h7q51 := fl_b (fi := 7) (lo := 0) (hi := 1601) o22 hr0 rfl
    have h7q52 : vi w21 0 7 = vi w21 0 7 := rfl
    refine hr_cV (As := [zv (t48)]) (rest := []) C (h_must h r (t48) hr0 (by omega)) ⟨by decide, by decide⟩ iV_X12_must g_X12_254 TM0 hr0 dX12_readLine_227 rfl rfl (Nat.le_of_ble_eq_true rfl) rfl ⟨rfl, (by omega)⟩ (fun w53 rv o54 q55 => ?_)
    obtain ⟨s56, rfl, hem, hfm⟩ := q55
    refine hr_norm (st' := []) rfl ?_
    have a3f : ∀ j : Nat, vi w53 3 j = if j = R then vi ws 3 j + d else vi ws 3 j := fun j => (show vi w53 3 j = vi w21 3 j from (by rw [sm_a o22 o54 s56 TMa_3 (by decide)])).trans (a3 j)
    have a3R : vi w53 3 R = vi ws 3 R + d := by rw [a3f, if_pos rfl]
    have : vi w53 4 R = vi ws 4 R := (by rw [sm_a o22 o54 s56 TMa_4 (by decide)]; rw [sm_a o4 o22 s24 TMa_4 (by decide)]; rw [sm_a how o4 s6 TMa_4 (by decide)]; rw [sm_a hwo how sm TMa_4 (by decide)])
    have : vi w53 5 R = vi ws 5 R := (by rw [sm_a o22 o54 s56 TMa_5 (by decide)]; rw [sm_a o4 o22 s24 TMa_5 (by decide)]; rw [sm_a how o4 s6 TMa_5 (by decide)]; rw [sm_a hwo how sm TMa_5 (by decide)])
    have : vi w53 17 R = vi ws 17 R := (by rw [sm_a o22 o54 s56 TMa_17 (by decide)]; rw [sm_a o4 o22 s24 TMa_17 (by decide)]; rw [sm_a how o4 s6 TMa_17 (by decide)]; rw [sm_a hwo how sm TMa_17 (by decide)])
    have : vi w53 18 R = vi ws 18 R := (by rw [sm_a o22 o54 s56 TMa_18 (by decide)]; rw [sm_a o4 o22 s24 TMa_18 (by decide)]; rw [sm_a how o4 s6 TMa_18 (by decide)]; rw [sm_a hwo how sm TMa_18 (by decide)])
    have : vi w53 19 R = vi ws 19 R := (by rw [sm_a o22 o54 s56 TMa_19 (by decide)]; rw [sm_a o4 o22 s24 TMa_19 (by decide)]; rw [sm_a how o4 s6 TMa_19 (by decide)]; rw [sm_a hwo how sm TMa_19 (by decide)])
    exact hr_vret C hlocks hr dX12_readLine_230 ⟨(fx_sm_tr (fx_sm_tr (fx_sm_tr (fx_sm_tr fx_sm_refl sm (by decide)) s6 (by decide)) s24 (by decide)) s56 (by decide)), rfl, (by omega), (TI_x (d := d) ti (by rw [sm_f o22 o54 s56 (by decide)]; rw [sm_f o4 o22 s24 (by decide)]; rw [sm_f how o4 s6 (by decide)]; rw [sm_f hwo how sm (by decide)]) (by rw [sm_f o22 o54 s56 (by decide)]; rw [sm_f o4 o22 s24 (by decide)]; rw [sm_f how o4 s6 (by decide)]; rw [sm_f hwo how sm (by decide)]) (by rw [sm_f o22 o54 s56 (by decide)]; rw [sm_f o4 o22 s24 (by decide)]; rw [sm_f how o4 s6 (by decide)]; rw [sm_f hwo how sm (by decide)]) (by omega) a3f (by rw [show vi w53 4 R = vi ws 4 R from (by rw [sm_a o22 o54 s56 TMa_4 (by decide)]; rw [sm_a o4 o22 s24 TMa_4 (by decide)]; rw [sm_a how o4 s6 TMa_4 (by decide)]; rw [sm_a hwo how sm TMa_4 (by decide)])]; exact hT4) (fun j => (by rw [sm_a o22 o54 s56 TMa_5 (by decide)]; rw [sm_a o4 o22 s24 TMa_5 (by decide)]; rw [sm_a how o4 s6 TMa_5 (by decide)]; rw [sm_a hwo how sm TMa_5 (by decide)])) (fun j => (by rw [sm_a o22 o54 s56 TMa_13 (by decide)]; rw [sm_a o4 o22 s24 TMa_13 (by decide)]; rw [sm_a how o4 s6 TMa_13 (by decide)]; rw [sm_a hwo how sm TMa_13 (by decide)])) (fun j => (by rw [sm_a o22 o54 s56 TMa_14 (by decide)]; rw [sm_a o4 o22 s24 TMa_14 (by decide)]; rw [sm_a how o4 s6 TMa_14 (by decide)]; rw [sm_a hwo how sm TMa_14 (by decide)])) (fun j => (by rw [sm_a o22 o54 s56 TMa_15 (by decide)]; rw [sm_a o4 o22 s24 TMa_15 (by decide)]; rw [sm_a how o4 s6 TMa_15 (by decide)]; rw [sm_a hwo how sm TMa_15 (by decide)])) (fun j => (by rw [sm_a o22 o54 s56 TMa_16 (by decide)]; rw [sm_a o4 o22 s24 TMa_16 (by decide)]; rw [sm_a how o4 s6 TMa_16 (by decide)]; rw [sm_a hwo how sm TMa_16 (by decide)])) (fun j => (by rw [sm_a o22 o54 s56 TMa_18 (by decide)]; rw [sm_a o4 o22 s24 TMa_18 (by decide)]; rw [sm_a how o4 s6 TMa_18 (by decide)]; rw [sm_a hwo how sm TMa_18 (by decide)])) (fun j => (by rw [sm_a o22 o54 s56 TMa_21 (by decide)]; rw [sm_a o4 o22 s24 TMa_21 (by decide)]; rw [sm_a how o4 s6 TMa_21 (by decide)]; rw [sm_a hwo how sm TMa_21 (by decide)]))), (by omega)⟩
  have k_beside : ∀ (x : Int64) (w : va_W), fx_wo (gsM, TM, cy, fun _ => True) ad w → fx_sm (gsM, TM, cy, fun _ => True) [(12, 4), (12, 5)] ws w → x.toInt = 108187867505765 → ¬ vi ws 4 R = 20 → HW l E ad D cy (va_A ws s.heap.size) s.heap p e ({ frames := 6, cells := 0, slots := 0, locals := 128 }) s m ([.ref r]).toArray below meth c (MQ below (hQ ad D cy (fun _ ws rv ws1 => fx_sm (gsM, TM, cy, fun _ => True) [(12, 4), (12, 5), (12, 6), (12, 7), (12, 8), (12, 9), (12, 10), (12, 36), (12, 37), (12, 38), (12, 39), (1000, 6), (1000, 21), (1000, 22), (1000, 23), (1000, 24), (1000, 15), (1000, 16), (1000, 3), (1000, 4), (1000, 5), (1000, 7), (1000, 8), (1000, 9), (1000, 10), (1000, 11), (1000, 12), (1000, 13), (1000, 14), (1000, 17), (1000, 18), (1000, 19), (1000, 20)] ws ws1 ∧ rv = none ∧ vi ws1 0 7 ≤ 1600 ∧ TI ws0 ws1 R ∧ (1 ≤ vi ws1 0 4 ∨ vi ws 3 R + vi ws 4 R + vi ws 5 R + vi ws 17 R + vi ws 18 R + vi ws 19 R + 1 ≤ vi ws1 3 R + vi ws1 4 R + vi ws1 5 R + vi ws1 17 R + vi ws1 18 R + vi ws1 19 R)) ([.ref r]) ws s.heap.size) ([.ref r]).toArray s 0 0 (va_A ws s.heap.size)) cX12_readLine 4 yX12_readLine.cls 32 [(0, .ref r), (1, .long x)] [] w := by
    intro x w how sm hx hg
    refine hr_aln C 0 dX12_readLine_32 rfl rfl rfl ?_
    have h7q1 := fl_b (fi := 7) (lo := 0) (hi := 1601) how hr0 rfl
    have h7q2 : vi w 0 7 = vi ws 0 7 := (by rw [sm_f hwo how sm (by decide)])
    refine hr_cV (As := []) (rest := []) C (hM_fx (km292 h)) ⟨by decide, by decide⟩ iV_X12_goOn g_X12_245 TM0 hr0 dX12_readLine_33 rfl rfl (Nat.le_of_ble_eq_true rfl) rfl ⟨(ty_cons (ok_r hr0 (by decide) (by decide)) ty_nil), (fs_f how hr0 rfl ⟨_, _, rfl⟩ (by omega) (by omega))⟩ (fun w3 rv o4 q5 => ?_)
    obtain ⟨s6, po, hpo7, hrv8, hty9, rt, hfs10⟩ := q5
    replace s6 : fx_sm (gsM, TM, cy, fun _ => True) [(12, 6), (12, 7), (12, 8), (12, 9), (12, 10)] w w3 := s6
    simp only [km292_c, List.mem_cons, List.not_mem_nil, or_false] at hpo7
    subst hpo7
    obtain rfl := hrv8
    obtain ⟨⟨_, u11⟩, av12, g13, u14⟩ := fs_u (v0 := .ref r) rfl hfs10
    have hf15 := fs_t hnd o4 hr0 rfl u11
    have hf16 := fs_t hnd o4 hr0 g13 u14
    refine hr_norm (st' := []) rfl ?_
    refine hr_lln C 1 dX12_readLine_36 rfl rfl rfl ?_
    refine hr_ld2 C kc_X12_173 dX12_readLine_37 rfl ?_
    refine hr_lcq C dX12_readLine_40 rfl (fun z17 h18 h19 => ?_)
    replace h19 : z17 = 0 ↔ x.toInt = 2003792484 := h19
    refine hr_if C 48 dX12_readLine_41 (by decide) ⟨by omega, by omega⟩ rfl (fun c20 => ?_) (fun c20 => absurd (show (z17 : Int) = 0 from c20) (by omega))
    have c20 : ¬ (z17 : Int) = 0 := c20
    refine hr_lln C 1 dX12_readLine_48 rfl rfl rfl ?_
    refine hr_ld2 C kc_X12_177 dX12_readLine_49 rfl ?_
    refine hr_lcq C dX12_readLine_52 rfl (fun z21 h22 h23 => ?_)
    replace h23 : z21 = 0 ↔ x.toInt = 108187867505765 := h23
    obtain rfl : z21 = 0 := by omega
    refine hr_if C 60 dX12_readLine_53 (by decide) ⟨by omega, by omega⟩ rfl (fun c24 => absurd (show ¬ (0 : Int) = 0 from c24) (by omega)) (fun c24 => ?_)
    have c24 : (0 : Int) = 0 := c24
    refine hr_aln C 0 dX12_readLine_56 rfl rfl rfl ?_
    refine hr_cV (As := []) (rest := []) C (h_readBeside h r hr0) ⟨by decide, by decide⟩ iV_X12_readBeside g_X12_286 TM0 hr0 dX12_readLine_57 rfl rfl (Nat.le_of_ble_eq_true rfl) rfl ⟨rfl, (by rw [show vi w3 0 35 = vi ws 0 35 from (by rw [sm_f how o4 s6 (by decide)]; rw [sm_f hwo how sm (by decide)]), hT, show vi w3 4 R = vi ws 4 R from (by rw [sm_a how o4 s6 TMa_4 (by decide)]; rw [sm_a hwo how sm TMa_4 (by decide)])]; omega), (by rw [show vi w3 0 35 = vi ws 0 35 from (by rw [sm_f how o4 s6 (by decide)]; rw [sm_f hwo how sm (by decide)]), hT, show vi w3 4 R = vi ws 4 R from (by rw [sm_a how o4 s6 TMa_4 (by decide)]; rw [sm_a hwo how sm TMa_4 (by decide)])]; omega), (by omega)⟩ (fun w25 rv o26 q27 => ?_)
    obtain ⟨s28, rfl, he2, d, hd, a4⟩ := q27
    have a4 : vi w25 4 R = vi ws 4 R + d := by rw [a4, show vi w3 0 35 = vi ws 0 35 from (by rw [sm_f how o4 s6 (by decide)]; rw [sm_f hwo how sm (by decide)]), hT, if_pos rfl, show vi w3 4 R = vi ws 4 R from (by rw [sm_a how o4 s6 TMa_4 (by decide)]; rw [sm_a hwo how sm TMa_4 (by decide)])]
    refine hr_norm (st' := []) rfl ?_
    refine hr_lln C 1 dX12_readLine_60 rfl rfl rfl ?_
    refine hr_ld2 C kc_X12_179 dX12_readLine_61 rfl ?_
    refine hr_lcq C dX12_readLine_64 rfl (fun z29 h30 h31 => ?_)
    replace h31 : z29 = 0 ↔ x.toInt = 7499639 := h31
    refine hr_if C 104 dX12_readLine_65 (by decide) ⟨by omega, by omega⟩ rfl (fun c32 => ?_) (fun c32 => absurd (show (z29 : Int) = 0 from c32) (by omega))
    have c32 : ¬ (z29 : Int) = 0 := c32
    refine hr_lln C 1 dX12_readLine_104 rfl rfl rfl ?_
    refine hr_ld2 C kc_X12_181 dX12_readLine_105 rfl ?_
    refine hr_lcq C dX12_readLine_108 rfl (fun z33 h34 h35 => ?_)
    replace h35 : z33 = 0 ↔ x.toInt = 1936484720 := h35
    refine hr_if C 162 dX12_readLine_109 (by decide) ⟨by omega, by omega⟩ rfl (fun c36 => ?_) (fun c36 => absurd (show (z33 : Int) = 0 from c36) (by omega))
    have c36 : ¬ (z33 : Int) = 0 := c36
    refine hr_lln C 1 dX12_readLine_162 rfl rfl rfl ?_
    refine hr_ld2 C kc_X12_183 dX12_readLine_163 rfl ?_
    refine hr_lcq C dX12_readLine_166 rfl (fun z37 h38 h39 => ?_)
    replace h39 : z37 = 0 ↔ x.toInt = 1835627379 := h39
    refine hr_if C 185 dX12_readLine_167 (by decide) ⟨by omega, by omega⟩ rfl (fun c40 => ?_) (fun c40 => absurd (show (z37 : Int) = 0 from c40) (by omega))
    have c40 : ¬ (z37 : Int) = 0 := c40
    refine hr_lln C 1 dX12_readLine_185 rfl rfl rfl ?_
    refine hr_ld2 C kc_X12_185 dX12_readLine_186 rfl ?_
    refine hr_lcq C dX12_readLine_189 rfl (fun z41 h42 h43 => ?_)
    replace h43 : z41 = 0 ↔ x.toInt = 1685217655 := h43
    refine hr_if C 220 dX12_readLine_190 (by decide) ⟨by omega, by omega⟩ rfl (fun c44 => ?_) (fun c44 => absurd (show (z41 : Int) = 0 from c44) (by omega))
    have c44 : ¬ (z41 : Int) = 0 := c44
    refine hr_aln C 0 dX12_readLine_220 rfl rfl rfl ?_
    refine hr_aln C 0 dX12_readLine_221 rfl rfl rfl ?_
    refine hr_bi C dX12_readLine_222 (by decide +kernel) rfl ?_
    refine hr_cV (As := [zv (59)]) (rest := [.ref r]) C (h_isSignHere h r (59) hr0 ⟨by omega, by omega⟩) ⟨by decide, by decide⟩ iV_X12_isSignHere g_X12_262 TM0 hr0 dX12_readLine_224 rfl rfl (Nat.le_of_ble_eq_true rfl) rfl ⟨rfl, trivial⟩ (fun w45 rv o46 q47 => ?_)
    obtain ⟨rfl, rfl⟩ := q47
    obtain ⟨t48, et49⟩ : ∃ t, t = (if vi w25 0 8 = 5 ∧ sgv w25 (vi w25 0 6) = 59 then 1 else 0 : Int) := ⟨_, rfl⟩
    rw [← et49]
    have e50 : (t48 = 1 ∧ (vi w25 0 8 = 5 ∧ sgv w25 (vi w25 0 6) = 59)) ∨ (t48 = 0 ∧ ¬ (vi w25 0 8 = 5 ∧ sgv w25 (vi w25 0 6) = 59)) := by rw [et49]; split <;> simp_all
    clear et49
    refine hr_norm (st' := [zv (t48), .ref r]) rfl ?_
    have h7q51 := fl_b (fi := 7) (lo := 0) (hi := 1601) o26 hr0 rfl
    have h7q52 : vi w25 0 7 = vi w25 0 7 := rfl
    refine hr_cV (As := [zv (t48)]) (rest := []) C (h_must h r (t48) hr0 (by omega)) ⟨by decide, by decide⟩ iV_X12_must g_X12_254 TM0 hr0 dX12_readLine_227 rfl rfl (Nat.le_of_ble_eq_true rfl) rfl ⟨rfl, (by omega)⟩ (fun w53 rv o54 q55 => ?_)
    obtain ⟨s56, rfl, hem, hfm⟩ := q55
    refine hr_norm (st' := []) rfl ?_
    have a4R : vi w53 4 R = vi ws 4 R + d := (show vi w53 4 R = vi w25 4 R from (by rw [sm_a o26 o54 s56 TMa_4 (by decide)])).trans a4
    have : vi w53 3 R = vi ws 3 R := (by rw [sm_a o26 o54 s56 TMa_3 (by decide)]; rw [sm_a o4 o26 s28 TMa_3 (by decide)]; rw [sm_a how o4 s6 TMa_3 (by decide)]; rw [sm_a hwo how sm TMa_3 (by decide)])
    have : vi w53 5 R = vi ws 5 R := (by rw [sm_a o26 o54 s56 TMa_5 (by decide)]; rw [sm_a o4 o26 s28 TMa_5 (by decide)]; rw [sm_a how o4 s6 TMa_5 (by decide)]; rw [sm_a hwo how sm TMa_5 (by decide)])
    have : vi w53 17 R = vi ws 17 R := (by rw [sm_a o26 o54 s56 TMa_17 (by decide)]; rw [sm_a o4 o26 s28 TMa_17 (by decide)]; rw [sm_a how o4 s6 TMa_17 (by decide)]; rw [sm_a hwo how sm TMa_17 (by decide)])
    have : vi w53 18 R = vi ws 18 R := (by rw [sm_a o26 o54 s56 TMa_18 (by decide)]; rw [sm_a o4 o26 s28 TMa_18 (by decide)]; rw [sm_a how o4 s6 TMa_18 (by decide)]; rw [sm_a hwo how sm TMa_18 (by decide)])
    have : vi w53 19 R = vi ws 19 R := (by rw [sm_a o26 o54 s56 TMa_19 (by decide)]; rw [sm_a o4 o26 s28 TMa_19 (by decide)]; rw [sm_a how o4 s6 TMa_19 (by decide)]; rw [sm_a hwo how sm TMa_19 (by decide)])
    exact hr_vret C hlocks hr dX12_readLine_230 ⟨(fx_sm_tr (fx_sm_tr (fx_sm_tr (fx_sm_tr fx_sm_refl sm (by decide)) s6 (by decide)) s28 (by decide)) s56 (by decide)), rfl, (by omega), (TI_x (d := 0) ti (by rw [sm_f o26 o54 s56 (by decide)]; rw [sm_f o4 o26 s28 (by decide)]; rw [sm_f how o4 s6 (by decide)]; rw [sm_f hwo how sm (by decide)]) (by rw [sm_f o26 o54 s56 (by decide)]; rw [sm_f o4 o26 s28 (by decide)]; rw [sm_f how o4 s6 (by decide)]; rw [sm_f hwo how sm (by decide)]) (by rw [sm_f o26 o54 s56 (by decide)]; rw [sm_f o4 o26 s28 (by decide)]; rw [sm_f how o4 s6 (by decide)]; rw [sm_f hwo how sm (by decide)]) (by omega) (fun j => by rw [Int.add_zero, ite_self]; exact (by rw [sm_a o26 o54 s56 TMa_3 (by decide)]; rw [sm_a o4 o26 s28 TMa_3 (by decide)]; rw [sm_a how o4 s6 TMa_3 (by decide)]; rw [sm_a hwo how sm TMa_3 (by decide)])) ⟨by omega, by omega⟩ (fun j => (by rw [sm_a o26 o54 s56 TMa_5 (by decide)]; rw [sm_a o4 o26 s28 TMa_5 (by decide)]; rw [sm_a how o4 s6 TMa_5 (by decide)]; rw [sm_a hwo how sm TMa_5 (by decide)])) (fun j => (by rw [sm_a o26 o54 s56 TMa_13 (by decide)]; rw [sm_a o4 o26 s28 TMa_13 (by decide)]; rw [sm_a how o4 s6 TMa_13 (by decide)]; rw [sm_a hwo how sm TMa_13 (by decide)])) (fun j => (by rw [sm_a o26 o54 s56 TMa_14 (by decide)]; rw [sm_a o4 o26 s28 TMa_14 (by decide)]; rw [sm_a how o4 s6 TMa_14 (by decide)]; rw [sm_a hwo how sm TMa_14 (by decide)])) (fun j => (by rw [sm_a o26 o54 s56 TMa_15 (by decide)]; rw [sm_a o4 o26 s28 TMa_15 (by decide)]; rw [sm_a how o4 s6 TMa_15 (by decide)]; rw [sm_a hwo how sm TMa_15 (by decide)])) (fun j => (by rw [sm_a o26 o54 s56 TMa_16 (by decide)]; rw [sm_a o4 o26 s28 TMa_16 (by decide)]; rw [sm_a how o4 s6 TMa_16 (by decide)]; rw [sm_a hwo how sm TMa_16 (by decide)])) (fun j => (by rw [sm_a o26 o54 s56 TMa_18 (by decide)]; rw [sm_a o4 o26 s28 TMa_18 (by decide)]; rw [sm_a how o4 s6 TMa_18 (by decide)]; rw [sm_a hwo how sm TMa_18 (by decide)])) (fun j => (by rw [sm_a o26 o54 s56 TMa_21 (by decide)]; rw [sm_a o4 o26 s28 TMa_21 (by decide)]; rw [sm_a how o4 s6 TMa_21 (by decide)]; rw [sm_a hwo how sm TMa_21 (by decide)]))), (by omega)⟩
  have k_row : ∀ (x : Int64) (w : va_W), fx_wo (gsM, TM, cy, fun _ => True) ad w → fx_sm (gsM, TM, cy, fun _ => True) [(12, 4), (12, 5)] ws w → x.toInt = 7499639 → vi ws 17 R = 0 → HW l E ad D cy (va_A ws s.heap.size) s.heap p e ({ frames := 6, cells := 0, slots := 0, locals := 128 }) s m ([.ref r]).toArray below meth c (MQ below (hQ ad D cy (fun _ ws rv ws1 => fx_sm (gsM, TM, cy, fun _ => True) [(12, 4), (12, 5), (12, 6), (12, 7), (12, 8), (12, 9), (12, 10), (12, 36), (12, 37), (12, 38), (12, 39), (1000, 6), (1000, 21), (1000, 22), (1000, 23), (1000, 24), (1000, 15), (1000, 16), (1000, 3), (1000, 4), (1000, 5), (1000, 7), (1000, 8), (1000, 9), (1000, 10), (1000, 11), (1000, 12), (1000, 13), (1000, 14), (1000, 17), (1000, 18), (1000, 19), (1000, 20)] ws ws1 ∧ rv = none ∧ vi ws1 0 7 ≤ 1600 ∧ TI ws0 ws1 R ∧ (1 ≤ vi ws1 0 4 ∨ vi ws 3 R + vi ws 4 R + vi ws 5 R + vi ws 17 R + vi ws 18 R + vi ws 19 R + 1 ≤ vi ws1 3 R + vi ws1 4 R + vi ws1 5 R + vi ws1 17 R + vi ws1 18 R + vi ws1 19 R)) ([.ref r]) ws s.heap.size) ([.ref r]).toArray s 0 0 (va_A ws s.heap.size)) cX12_readLine 4 yX12_readLine.cls 32 [(0, .ref r), (1, .long x)] [] w := by
    intro x w how sm hx hg
    refine hr_aln C 0 dX12_readLine_32 rfl rfl rfl ?_
    have h7q1 := fl_b (fi := 7) (lo := 0) (hi := 1601) how hr0 rfl
    have h7q2 : vi w 0 7 = vi ws 0 7 := (by rw [sm_f hwo how sm (by decide)])
    refine hr_cV (As := []) (rest := []) C (hM_fx (km292 h)) ⟨by decide, by decide⟩ iV_X12_goOn g_X12_245 TM0 hr0 dX12_readLine_33 rfl rfl (Nat.le_of_ble_eq_true rfl) rfl ⟨(ty_cons (ok_r hr0 (by decide) (by decide)) ty_nil), (fs_f how hr0 rfl ⟨_, _, rfl⟩ (by omega) (by omega))⟩ (fun w3 rv o4 q5 => ?_)
    obtain ⟨s6, po, hpo7, hrv8, hty9, rt, hfs10⟩ := q5
    replace s6 : fx_sm (gsM, TM, cy, fun _ => True) [(12, 6), (12, 7), (12, 8), (12, 9), (12, 10)] w w3 := s6
    simp only [km292_c, List.mem_cons, List.not_mem_nil, or_false] at hpo7
    subst hpo7
    obtain rfl := hrv8
    obtain ⟨⟨_, u11⟩, av12, g13, u14⟩ := fs_u (v0 := .ref r) rfl hfs10
    have hf15 := fs_t hnd o4 hr0 rfl u11
    have hf16 := fs_t hnd o4 hr0 g13 u14
    refine hr_norm (st' := []) rfl ?_
    refine hr_lln C 1 dX12_readLine_36 rfl rfl rfl ?_
    refine hr_ld2 C kc_X12_173 dX12_readLine_37 rfl ?_
    refine hr_lcq C dX12_readLine_40 rfl (fun z17 h18 h19 => ?_)
    replace h19 : z17 = 0 ↔ x.toInt = 2003792484 := h19
    refine hr_if C 48 dX12_readLine_41 (by decide) ⟨by omega, by omega⟩ rfl (fun c20 => ?_) (fun c20 => absurd (show (z17 : Int) = 0 from c20) (by omega))
    have c20 : ¬ (z17 : Int) = 0 := c20
    refine hr_lln C 1 dX12_readLine_48 rfl rfl rfl ?_
    refine hr_ld2 C kc_X12_177 dX12_readLine_49 rfl ?_
    refine hr_lcq C dX12_readLine_52 rfl (fun z21 h22 h23 => ?_)
    replace h23 : z21 = 0 ↔ x.toInt = 108187867505765 := h23
    refine hr_if C 60 dX12_readLine_53 (by decide) ⟨by omega, by omega⟩ rfl (fun c24 => ?_) (fun c24 => absurd (show (z21 : Int) = 0 from c24) (by omega))
    have c24 : ¬ (z21 : Int) = 0 := c24
    refine hr_lln C 1 dX12_readLine_60 rfl rfl rfl ?_
    refine hr_ld2 C kc_X12_179 dX12_readLine_61 rfl ?_
    refine hr_lcq C dX12_readLine_64 rfl (fun z25 h26 h27 => ?_)
    replace h27 : z25 = 0 ↔ x.toInt = 7499639 := h27
    obtain rfl : z25 = 0 := by omega
    refine hr_if C 104 dX12_readLine_65 (by decide) ⟨by omega, by omega⟩ rfl (fun c28 => absurd (show ¬ (0 : Int) = 0 from c28) (by omega)) (fun c28 => ?_)
    have c28 : (0 : Int) = 0 := c28
    refine hr_aln C 0 dX12_readLine_68 rfl rfl rfl ?_
    refine hr_gA (g := 17) C hr0 TM0 rfl (by decide) fl_X12_63 dX12_readLine_69 rfl (fun a29 ha30 => ?_)
    refine hr_aln C 0 dX12_readLine_72 rfl rfl rfl ?_
    refine hr_gI (lo := 0) (hi := 1) C hr0 TM0 rfl fl_X12_265 dX12_readLine_73 rfl (fun b31 b32 => ?_)
    have q33 : vi w3 0 35 = vi ws 0 35 := by rw [sm_f how o4 s6 (by decide)]; rw [sm_f hwo how sm (by decide)]
    rw [q33] at b31 b32 ⊢
    refine hr_ic C dX12_readLine_76 rfl ?_
    refine hr_zst C ha30 TMa_17 (by omega) (by omega) (by decide) (by omega) dX12_readLine_77 rfl (fun w34 o35 s36 e37 => ?_)
    refine hr_aln C 0 dX12_readLine_78 rfl rfl rfl ?_
    refine hr_gA (g := 8) C hr0 TM0 rfl (by decide) fl_X12_36 dX12_readLine_79 rfl (fun a38 ha39 => ?_)
    refine hr_aln C 0 dX12_readLine_82 rfl rfl rfl ?_
    refine hr_gI (lo := 0) (hi := 1) C hr0 TM0 rfl fl_X12_265 dX12_readLine_83 rfl (fun b40 b41 => ?_)
    have q42 : vi w34 0 35 = vi ws 0 35 := by rw [e37, if_neg (by omega)]; rw [sm_f how o4 s6 (by decide)]; rw [sm_f hwo how sm (by decide)]
    rw [q42] at b40 b41 ⊢
    refine hr_aln C 0 dX12_readLine_86 rfl rfl rfl ?_
    refine hr_aln C 0 dX12_readLine_87 rfl rfl rfl ?_
    refine hr_gA (g := 12) C hr0 TM0 rfl (by decide) fl_X12_48 dX12_readLine_88 rfl (fun a43 ha44 => ?_)
    refine hr_bi C dX12_readLine_91 (by decide +kernel) rfl ?_
    refine hr_aln C 0 dX12_readLine_93 rfl rfl rfl ?_
    refine hr_gI (lo := 0) (hi := 1) C hr0 TM0 rfl fl_X12_265 dX12_readLine_94 rfl (fun b45 b46 => ?_)
    have q47 : vi w34 0 35 = vi ws 0 35 := by rw [e37, if_neg (by omega)]; rw [sm_f how o4 s6 (by decide)]; rw [sm_f hwo how sm (by decide)]
    rw [q47] at b45 b46 ⊢
    refine hr_mul C dX12_readLine_97 rfl ?_
    refine hr_bi C dX12_readLine_98 (by decide +kernel) rfl ?_
    refine hr_cV (As := [.ref a43, zv (12 * (vi ws 0 35)), zv (12)]) (rest := [zv (vi ws 0 35), .ref a38]) C (h_readWords_12 h r a43 (12 * (vi ws 0 35)) (12) hr0 ha44 ⟨by omega, by omega⟩ ⟨by omega, by omega⟩) ⟨by decide, by decide⟩ iV_X12_readWords g_X12_289 TM0 hr0 dX12_readLine_100 rfl rfl (Nat.le_of_ble_eq_true rfl) rfl ⟨rfl, (by rw [e37, if_neg (by omega)]; omega)⟩ (fun w48 rv o49 q50 => ?_)
    obtain ⟨s51, he2, zw, rfl, zw0, zw1, zwk, zwj⟩ := q50
    refine hr_norm (st' := [zv (zw), zv (vi ws 0 35), .ref a38]) rfl ?_
    refine hr_ast C ha39 TMa_8 (by omega) (by omega) (by decide) ⟨by omega, by omega⟩ (hp1 (by omega) (by omega)) dX12_readLine_103 rfl (fun w52 o53 s54 e55 => ?_)
    refine hr_lln C 1 dX12_readLine_104 rfl rfl rfl ?_
    refine hr_ld2 C kc_X12_181 dX12_readLine_105 rfl ?_
    refine hr_lcq C dX12_readLine_108 rfl (fun z56 h57 h58 => ?_)
    replace h58 : z56 = 0 ↔ x.toInt = 1936484720 := h58
    refine hr_if C 162 dX12_readLine_109 (by decide) ⟨by omega, by omega⟩ rfl (fun c59 => ?_) (fun c59 => absurd (show (z56 : Int) = 0 from c59) (by omega))
    have c59 : ¬ (z56 : Int) = 0 := c59
    refine hr_lln C 1 dX12_readLine_162 rfl rfl rfl ?_
    refine hr_ld2 C kc_X12_183 dX12_readLine_163 rfl ?_
    refine hr_lcq C dX12_readLine_166 rfl (fun z60 h61 h62 => ?_)
    replace h62 : z60 = 0 ↔ x.toInt = 1835627379 := h62
    refine hr_if C 185 dX12_readLine_167 (by decide) ⟨by omega, by omega⟩ rfl (fun c63 => ?_) (fun c63 => absurd (show (z60 : Int) = 0 from c63) (by omega))
    have c63 : ¬ (z60 : Int) = 0 := c63
    refine hr_lln C 1 dX12_readLine_185 rfl rfl rfl ?_
    refine hr_ld2 C kc_X12_185 dX12_readLine_186 rfl ?_
    refine hr_lcq C dX12_readLine_189 rfl (fun z64 h65 h66 => ?_)
    replace h66 : z64 = 0 ↔ x.toInt = 1685217655 := h66
    refine hr_if C 220 dX12_readLine_190 (by decide) ⟨by omega, by omega⟩ rfl (fun c67 => ?_) (fun c67 => absurd (show (z64 : Int) = 0 from c67) (by omega))
    have c67 : ¬ (z64 : Int) = 0 := c67
    refine hr_aln C 0 dX12_readLine_220 rfl rfl rfl ?_
    refine hr_aln C 0 dX12_readLine_221 rfl rfl rfl ?_
    refine hr_bi C dX12_readLine_222 (by decide +kernel) rfl ?_
    refine hr_cV (As := [zv (59)]) (rest := [.ref r]) C (h_isSignHere h r (59) hr0 ⟨by omega, by omega⟩) ⟨by decide, by decide⟩ iV_X12_isSignHere g_X12_262 TM0 hr0 dX12_readLine_224 rfl rfl (Nat.le_of_ble_eq_true rfl) rfl ⟨rfl, trivial⟩ (fun w68 rv o69 q70 => ?_)
    obtain ⟨rfl, rfl⟩ := q70
    obtain ⟨t71, et72⟩ : ∃ t, t = (if vi w52 0 8 = 5 ∧ sgv w52 (vi w52 0 6) = 59 then 1 else 0 : Int) := ⟨_, rfl⟩
    rw [← et72]
    have e73 : (t71 = 1 ∧ (vi w52 0 8 = 5 ∧ sgv w52 (vi w52 0 6) = 59)) ∨ (t71 = 0 ∧ ¬ (vi w52 0 8 = 5 ∧ sgv w52 (vi w52 0 6) = 59)) := by rw [et72]; split <;> simp_all
    clear et72
    refine hr_norm (st' := [zv (t71), .ref r]) rfl ?_
    have h7q74 := fl_b (fi := 7) (lo := 0) (hi := 1601) o53 hr0 rfl
    have h7q75 : vi w52 0 7 = vi w48 0 7 := (by rw [e55, if_neg (by omega)])
    refine hr_cV (As := [zv (t71)]) (rest := []) C (h_must h r (t71) hr0 (by omega)) ⟨by decide, by decide⟩ iV_X12_must g_X12_254 TM0 hr0 dX12_readLine_227 rfl rfl (Nat.le_of_ble_eq_true rfl) rfl ⟨rfl, (by rw [e55, if_neg (by omega)]; omega)⟩ (fun w76 rv o77 q78 => ?_)
    obtain ⟨s79, rfl, hem, hfm⟩ := q78
    refine hr_norm (st' := []) rfl ?_
    have aB : vi w76 17 R = 1 := by rw [show vi w76 17 R = vi w34 17 R from (by rw [sm_a o53 o77 s79 TMa_17 (by decide)]; rw [e55, if_neg (by omega)]; rw [sm_a o35 o49 s51 TMa_17 (by decide)]), e37, if_pos ⟨rfl, hT.symm⟩]
    have : vi w76 3 R = vi ws 3 R := (by rw [sm_a o53 o77 s79 TMa_3 (by decide)]; rw [e55, if_neg (by omega)]; rw [sm_a o35 o49 s51 TMa_3 (by decide)]; rw [e37, if_neg (by omega)]; rw [sm_a how o4 s6 TMa_3 (by decide)]; rw [sm_a hwo how sm TMa_3 (by decide)])
    have : vi w76 4 R = vi ws 4 R := (by rw [sm_a o53 o77 s79 TMa_4 (by decide)]; rw [e55, if_neg (by omega)]; rw [sm_a o35 o49 s51 TMa_4 (by decide)]; rw [e37, if_neg (by omega)]; rw [sm_a how o4 s6 TMa_4 (by decide)]; rw [sm_a hwo how sm TMa_4 (by decide)])
    have : vi w76 5 R = vi ws 5 R := (by rw [sm_a o53 o77 s79 TMa_5 (by decide)]; rw [e55, if_neg (by omega)]; rw [sm_a o35 o49 s51 TMa_5 (by decide)]; rw [e37, if_neg (by omega)]; rw [sm_a how o4 s6 TMa_5 (by decide)]; rw [sm_a hwo how sm TMa_5 (by decide)])
    have : vi w76 18 R = vi ws 18 R := (by rw [sm_a o53 o77 s79 TMa_18 (by decide)]; rw [e55, if_neg (by omega)]; rw [sm_a o35 o49 s51 TMa_18 (by decide)]; rw [e37, if_neg (by omega)]; rw [sm_a how o4 s6 TMa_18 (by decide)]; rw [sm_a hwo how sm TMa_18 (by decide)])
    have : vi w76 19 R = vi ws 19 R := (by rw [sm_a o53 o77 s79 TMa_19 (by decide)]; rw [e55, if_neg (by omega)]; rw [sm_a o35 o49 s51 TMa_19 (by decide)]; rw [e37, if_neg (by omega)]; rw [sm_a how o4 s6 TMa_19 (by decide)]; rw [sm_a hwo how sm TMa_19 (by decide)])
    exact hr_vret C hlocks hr dX12_readLine_230 ⟨(fx_sm_tr (fx_sm_tr (fx_sm_tr (fx_sm_tr (fx_sm_tr (fx_sm_tr fx_sm_refl sm (by decide)) s6 (by decide)) s36 (by decide)) s51 (by decide)) s54 (by decide)) s79 (by decide)), rfl, (by omega), (TI_x (d := 0) ti (by rw [sm_f o53 o77 s79 (by decide)]; rw [e55, if_neg (by omega)]; rw [sm_f o35 o49 s51 (by decide)]; rw [e37, if_neg (by omega)]; rw [sm_f how o4 s6 (by decide)]; rw [sm_f hwo how sm (by decide)]) (by rw [sm_f o53 o77 s79 (by decide)]; rw [e55, if_neg (by omega)]; rw [sm_f o35 o49 s51 (by decide)]; rw [e37, if_neg (by omega)]; rw [sm_f how o4 s6 (by decide)]; rw [sm_f hwo how sm (by decide)]) (by rw [sm_f o53 o77 s79 (by decide)]; rw [e55, if_neg (by omega)]; rw [sm_f o35 o49 s51 (by decide)]; rw [e37, if_neg (by omega)]; rw [sm_f how o4 s6 (by decide)]; rw [sm_f hwo how sm (by decide)]) (by omega) (fun j => by rw [Int.add_zero, ite_self]; exact (by rw [sm_a o53 o77 s79 TMa_3 (by decide)]; rw [e55, if_neg (by omega)]; rw [sm_a o35 o49 s51 TMa_3 (by decide)]; rw [e37, if_neg (by omega)]; rw [sm_a how o4 s6 TMa_3 (by decide)]; rw [sm_a hwo how sm TMa_3 (by decide)])) (by rw [show vi w76 4 R = vi ws 4 R from (by rw [sm_a o53 o77 s79 TMa_4 (by decide)]; rw [e55, if_neg (by omega)]; rw [sm_a o35 o49 s51 TMa_4 (by decide)]; rw [e37, if_neg (by omega)]; rw [sm_a how o4 s6 TMa_4 (by decide)]; rw [sm_a hwo how sm TMa_4 (by decide)])]; exact hT4) (fun j => (by rw [sm_a o53 o77 s79 TMa_5 (by decide)]; rw [e55, if_neg (by omega)]; rw [sm_a o35 o49 s51 TMa_5 (by decide)]; rw [e37, if_neg (by omega)]; rw [sm_a how o4 s6 TMa_5 (by decide)]; rw [sm_a hwo how sm TMa_5 (by decide)])) (fun j => (by rw [sm_a o53 o77 s79 TMa_13 (by decide)]; rw [e55, if_neg (by omega)]; rw [sm_a o35 o49 s51 TMa_13 (by decide)]; rw [e37, if_neg (by omega)]; rw [sm_a how o4 s6 TMa_13 (by decide)]; rw [sm_a hwo how sm TMa_13 (by decide)])) (fun j => (by rw [sm_a o53 o77 s79 TMa_14 (by decide)]; rw [e55, if_neg (by omega)]; rw [sm_a o35 o49 s51 TMa_14 (by decide)]; rw [e37, if_neg (by omega)]; rw [sm_a how o4 s6 TMa_14 (by decide)]; rw [sm_a hwo how sm TMa_14 (by decide)])) (fun j => (by rw [sm_a o53 o77 s79 TMa_15 (by decide)]; rw [e55, if_neg (by omega)]; rw [sm_a o35 o49 s51 TMa_15 (by decide)]; rw [e37, if_neg (by omega)]; rw [sm_a how o4 s6 TMa_15 (by decide)]; rw [sm_a hwo how sm TMa_15 (by decide)])) (fun j => (by rw [sm_a o53 o77 s79 TMa_16 (by decide)]; rw [e55, if_neg (by omega)]; rw [sm_a o35 o49 s51 TMa_16 (by decide)]; rw [e37, if_neg (by omega)]; rw [sm_a how o4 s6 TMa_16 (by decide)]; rw [sm_a hwo how sm TMa_16 (by decide)])) (fun j => (by rw [sm_a o53 o77 s79 TMa_18 (by decide)]; rw [e55, if_neg (by omega)]; rw [sm_a o35 o49 s51 TMa_18 (by decide)]; rw [e37, if_neg (by omega)]; rw [sm_a how o4 s6 TMa_18 (by decide)]; rw [sm_a hwo how sm TMa_18 (by decide)])) (fun j => (by rw [sm_a o53 o77 s79 TMa_21 (by decide)]; rw [e55, if_neg (by omega)]; rw [sm_a o35 o49 s51 TMa_21 (by decide)]; rw [e37, if_neg (by omega)]; rw [sm_a how o4 s6 TMa_21 (by decide)]; rw [sm_a hwo how sm TMa_21 (by decide)]))), (by omega)⟩
  have k_slip : ∀ (x : Int64) (w : va_W), fx_wo (gsM, TM, cy, fun _ => True) ad w → fx_sm (gsM, TM, cy, fun _ => True) [(12, 4), (12, 5)] ws w → x.toInt = 1936484720 → ¬ vi ws 5 R = 5 → HW l E ad D cy (va_A ws s.heap.size) s.heap p e ({ frames := 6, cells := 0, slots := 0, locals := 128 }) s m ([.ref r]).toArray below meth c (MQ below (hQ ad D cy (fun _ ws rv ws1 => fx_sm (gsM, TM, cy, fun _ => True) [(12, 4), (12, 5), (12, 6), (12, 7), (12, 8), (12, 9), (12, 10), (12, 36), (12, 37), (12, 38), (12, 39), (1000, 6), (1000, 21), (1000, 22), (1000, 23), (1000, 24), (1000, 15), (1000, 16), (1000, 3), (1000, 4), (1000, 5), (1000, 7), (1000, 8), (1000, 9), (1000, 10), (1000, 11), (1000, 12), (1000, 13), (1000, 14), (1000, 17), (1000, 18), (1000, 19), (1000, 20)] ws ws1 ∧ rv = none ∧ vi ws1 0 7 ≤ 1600 ∧ TI ws0 ws1 R ∧ (1 ≤ vi ws1 0 4 ∨ vi ws 3 R + vi ws 4 R + vi ws 5 R + vi ws 17 R + vi ws 18 R + vi ws 19 R + 1 ≤ vi ws1 3 R + vi ws1 4 R + vi ws1 5 R + vi ws1 17 R + vi ws1 18 R + vi ws1 19 R)) ([.ref r]) ws s.heap.size) ([.ref r]).toArray s 0 0 (va_A ws s.heap.size)) cX12_readLine 4 yX12_readLine.cls 32 [(0, .ref r), (1, .long x)] [] w := by
    intro x w how sm hx hg
    have hg5 : ¬ vi ws 5 (Int.toNat (vi ws 0 35)) = 5 := by rw [hT]; exact hg
    refine hr_aln C 0 dX12_readLine_32 rfl rfl rfl ?_
    have h7q1 := fl_b (fi := 7) (lo := 0) (hi := 1601) how hr0 rfl
    have h7q2 : vi w 0 7 = vi ws 0 7 := (by rw [sm_f hwo how sm (by decide)])
    refine hr_cV (As := []) (rest := []) C (hM_fx (km292 h)) ⟨by decide, by decide⟩ iV_X12_goOn g_X12_245 TM0 hr0 dX12_readLine_33 rfl rfl (Nat.le_of_ble_eq_true rfl) rfl ⟨(ty_cons (ok_r hr0 (by decide) (by decide)) ty_nil), (fs_f how hr0 rfl ⟨_, _, rfl⟩ (by omega) (by omega))⟩ (fun w3 rv o4 q5 => ?_)
    obtain ⟨s6, po, hpo7, hrv8, hty9, rt, hfs10⟩ := q5
    replace s6 : fx_sm (gsM, TM, cy, fun _ => True) [(12, 6), (12, 7), (12, 8), (12, 9), (12, 10)] w w3 := s6
    simp only [km292_c, List.mem_cons, List.not_mem_nil, or_false] at hpo7
    subst hpo7
    obtain rfl := hrv8
    obtain ⟨⟨_, u11⟩, av12, g13, u14⟩ := fs_u (v0 := .ref r) rfl hfs10
    have hf15 := fs_t hnd o4 hr0 rfl u11
    have hf16 := fs_t hnd o4 hr0 g13 u14
    refine hr_norm (st' := []) rfl ?_
    refine hr_lln C 1 dX12_readLine_36 rfl rfl rfl ?_
    refine hr_ld2 C kc_X12_173 dX12_readLine_37 rfl ?_
    refine hr_lcq C dX12_readLine_40 rfl (fun z17 h18 h19 => ?_)
    replace h19 : z17 = 0 ↔ x.toInt = 2003792484 := h19
    refine hr_if C 48 dX12_readLine_41 (by decide) ⟨by omega, by omega⟩ rfl (fun c20 => ?_) (fun c20 => absurd (show (z17 : Int) = 0 from c20) (by omega))
    have c20 : ¬ (z17 : Int) = 0 := c20
    refine hr_lln C 1 dX12_readLine_48 rfl rfl rfl ?_
    refine hr_ld2 C kc_X12_177 dX12_readLine_49 rfl ?_
    refine hr_lcq C dX12_readLine_52 rfl (fun z21 h22 h23 => ?_)
    replace h23 : z21 = 0 ↔ x.toInt = 108187867505765 := h23
    refine hr_if C 60 dX12_readLine_53 (by decide) ⟨by omega, by omega⟩ rfl (fun c24 => ?_) (fun c24 => absurd (show (z21 : Int) = 0 from c24) (by omega))
    have c24 : ¬ (z21 : Int) = 0 := c24
    refine hr_lln C 1 dX12_readLine_60 rfl rfl rfl ?_
    refine hr_ld2 C kc_X12_179 dX12_readLine_61 rfl ?_
    refine hr_lcq C dX12_readLine_64 rfl (fun z25 h26 h27 => ?_)
    replace h27 : z25 = 0 ↔ x.toInt = 7499639 := h27
    refine hr_if C 104 dX12_readLine_65 (by decide) ⟨by omega, by omega⟩ rfl (fun c28 => ?_) (fun c28 => absurd (show (z25 : Int) = 0 from c28) (by omega))
    have c28 : ¬ (z25 : Int) = 0 := c28
    refine hr_lln C 1 dX12_readLine_104 rfl rfl rfl ?_
    refine hr_ld2 C kc_X12_181 dX12_readLine_105 rfl ?_
    refine hr_lcq C dX12_readLine_108 rfl (fun z29 h30 h31 => ?_)
    replace h31 : z29 = 0 ↔ x.toInt = 1936484720 := h31
    obtain rfl : z29 = 0 := by omega
    refine hr_if C 162 dX12_readLine_109 (by decide) ⟨by omega, by omega⟩ rfl (fun c32 => absurd (show ¬ (0 : Int) = 0 from c32) (by omega)) (fun c32 => ?_)
    have c32 : (0 : Int) = 0 := c32
    refine hr_ic C dX12_readLine_112 rfl ?_
    refine hr_aln C 0 dX12_readLine_113 rfl rfl rfl ?_
    refine hr_gI (lo := 0) (hi := 1) C hr0 TM0 rfl fl_X12_265 dX12_readLine_114 rfl (fun b33 b34 => ?_)
    have q35 : vi w3 0 35 = vi ws 0 35 := by rw [sm_f how o4 s6 (by decide)]; rw [sm_f hwo how sm (by decide)]
    rw [q35] at b33 b34 ⊢
    refine hr_mul C dX12_readLine_117 rfl ?_
    refine hr_aln C 0 dX12_readLine_118 rfl rfl rfl ?_
    refine hr_gA (g := 5) C hr0 TM0 rfl (by decide) fl_X12_27 dX12_readLine_119 rfl (fun a36 ha37 => ?_)
    refine hr_aln C 0 dX12_readLine_122 rfl rfl rfl ?_
    refine hr_gI (lo := 0) (hi := 1) C hr0 TM0 rfl fl_X12_265 dX12_readLine_123 rfl (fun b38 b39 => ?_)
    have q40 : vi w3 0 35 = vi ws 0 35 := by rw [sm_f how o4 s6 (by decide)]; rw [sm_f hwo how sm (by decide)]
    rw [q40] at b38 b39 ⊢
    refine hr_ald C ha37 TMa_5 (by omega) (by omega) (by decide) dX12_readLine_126 rfl (fun b41 b42 => ?_)
    have b41 := gp1 b41
    have q43 : vi w3 5 (Int.toNat (vi ws 0 35)) = vi ws 5 (Int.toNat (vi ws 0 35)) := by rw [sm_a how o4 s6 TMa_5 (by decide)]; rw [sm_a hwo how sm TMa_5 (by decide)]
    rw [q43] at b41 b42 ⊢
    simp only [rg] at b42
    refine hr_add C dX12_readLine_127 rfl ?_
    refine hr_isn (lv' := [(3, zv ((5 * (vi ws 0 35)) + (vi ws 5 (Int.toNat (vi ws 0 35))))), (0, .ref r), (1, .long x)]) C dX12_readLine_128 rfl (by decide) rfl rfl ?_
    refine hr_aln C 1 dX12_readLine_129 rfl rfl rfl ?_
    refine hr_gA (g := 13) C hr0 TM0 rfl (by decide) fl_X12_51 dX12_readLine_130 rfl (fun a44 ha45 => ?_)
    refine hr_iln C 0 dX12_readLine_133 rfl rfl rfl ?_
    refine hr_aln C 1 dX12_readLine_134 rfl rfl rfl ?_
    refine hr_aln C 1 dX12_readLine_135 rfl rfl rfl ?_
    refine hr_gA (g := 14) C hr0 TM0 rfl (by decide) fl_X12_54 dX12_readLine_136 rfl (fun a46 ha47 => ?_)
    refine hr_bi C dX12_readLine_139 (by decide +kernel) rfl ?_
    refine hr_iln C 0 dX12_readLine_141 rfl rfl rfl ?_
    refine hr_mul C dX12_readLine_142 rfl ?_
    refine hr_bi C dX12_readLine_143 (by decide +kernel) rfl ?_
    refine hr_cV (As := [.ref a46, zv (8 * ((5 * (vi ws 0 35)) + (vi ws 5 (Int.toNat (vi ws 0 35))))), zv (8)]) (rest := [zv ((5 * (vi ws 0 35)) + (vi ws 5 (Int.toNat (vi ws 0 35)))), .ref a44]) C (h_readWords_14 h r a46 (8 * ((5 * (vi ws 0 35)) + (vi ws 5 (Int.toNat (vi ws 0 35))))) (8) hr0 ha47 ⟨by omega, by omega⟩ ⟨by omega, by omega⟩) ⟨by decide, by decide⟩ iV_X12_readWords g_X12_289 TM0 hr0 dX12_readLine_145 rfl rfl (Nat.le_of_ble_eq_true rfl) rfl ⟨rfl, (by omega)⟩ (fun w48 rv o49 q50 => ?_)
    obtain ⟨s51, he2, zw, rfl, zw0, zw1, zwk, zwj⟩ := q50
    refine hr_norm (st' := [zv (zw), zv ((5 * (vi ws 0 35)) + (vi ws 5 (Int.toNat (vi ws 0 35)))), .ref a44]) rfl ?_
    refine hr_ast C ha45 TMa_13 (by omega) (by omega) (by decide) ⟨by omega, by omega⟩ (hp1 (by omega) (by omega)) dX12_readLine_148 rfl (fun w52 o53 s54 e55 => ?_)
    refine hr_aln C 1 dX12_readLine_149 rfl rfl rfl ?_
    refine hr_gA (g := 5) C hr0 TM0 rfl (by decide) fl_X12_27 dX12_readLine_150 rfl (fun a56 ha57 => ?_)
    refine hr_aln C 1 dX12_readLine_153 rfl rfl rfl ?_
    refine hr_gI (lo := 0) (hi := 1) C hr0 TM0 rfl fl_X12_265 dX12_readLine_154 rfl (fun b58 b59 => ?_)
    have q60 : vi w52 0 35 = vi ws 0 35 := by rw [e55, if_neg (by omega)]; rw [sm_f o4 o49 s51 (by decide)]; rw [sm_f how o4 s6 (by decide)]; rw [sm_f hwo how sm (by decide)]
    rw [q60] at b58 b59 ⊢
    refine hr_dup2 C dX12_readLine_157 rfl rfl rfl ?_
    refine hr_ald C ha57 TMa_5 (by omega) (by omega) (by decide) dX12_readLine_158 rfl (fun b61 b62 => ?_)
    have b61 := gp1 b61
    have q63 : vi w52 5 (Int.toNat (vi ws 0 35)) = vi ws 5 (Int.toNat (vi ws 0 35)) := by rw [e55, if_neg (by omega)]; rw [sm_a o4 o49 s51 TMa_5 (by decide)]; rw [sm_a how o4 s6 TMa_5 (by decide)]; rw [sm_a hwo how sm TMa_5 (by decide)]
    rw [q63] at b61 b62 ⊢
    simp only [rg] at b62
    refine hr_ic C dX12_readLine_159 rfl ?_
    refine hr_add C dX12_readLine_160 rfl ?_
    refine hr_ast C ha57 TMa_5 (by omega) (by omega) (by decide) ⟨by omega, by omega⟩ (hp1 (by omega) (by omega)) dX12_readLine_161 rfl (fun w64 o65 s66 e67 => ?_)
    refine hr_lln C 2 dX12_readLine_162 rfl rfl rfl ?_
    refine hr_ld2 C kc_X12_183 dX12_readLine_163 rfl ?_
    refine hr_lcq C dX12_readLine_166 rfl (fun z68 h69 h70 => ?_)
    replace h70 : z68 = 0 ↔ x.toInt = 1835627379 := h70
    refine hr_if C 185 dX12_readLine_167 (by decide) ⟨by omega, by omega⟩ rfl (fun c71 => ?_) (fun c71 => absurd (show (z68 : Int) = 0 from c71) (by omega))
    have c71 : ¬ (z68 : Int) = 0 := c71
    refine hr_lln C 2 dX12_readLine_185 rfl rfl rfl ?_
    refine hr_ld2 C kc_X12_185 dX12_readLine_186 rfl ?_
    refine hr_lcq C dX12_readLine_189 rfl (fun z72 h73 h74 => ?_)
    replace h74 : z72 = 0 ↔ x.toInt = 1685217655 := h74
    refine hr_if C 220 dX12_readLine_190 (by decide) ⟨by omega, by omega⟩ rfl (fun c75 => ?_) (fun c75 => absurd (show (z72 : Int) = 0 from c75) (by omega))
    have c75 : ¬ (z72 : Int) = 0 := c75
    refine hr_aln C 1 dX12_readLine_220 rfl rfl rfl ?_
    refine hr_aln C 1 dX12_readLine_221 rfl rfl rfl ?_
    refine hr_bi C dX12_readLine_222 (by decide +kernel) rfl ?_
    refine hr_cV (As := [zv (59)]) (rest := [.ref r]) C (h_isSignHere h r (59) hr0 ⟨by omega, by omega⟩) ⟨by decide, by decide⟩ iV_X12_isSignHere g_X12_262 TM0 hr0 dX12_readLine_224 rfl rfl (Nat.le_of_ble_eq_true rfl) rfl ⟨rfl, trivial⟩ (fun w76 rv o77 q78 => ?_)
    obtain ⟨rfl, rfl⟩ := q78
    obtain ⟨t79, et80⟩ : ∃ t, t = (if vi w64 0 8 = 5 ∧ sgv w64 (vi w64 0 6) = 59 then 1 else 0 : Int) := ⟨_, rfl⟩
    rw [← et80]
    have e81 : (t79 = 1 ∧ (vi w64 0 8 = 5 ∧ sgv w64 (vi w64 0 6) = 59)) ∨ (t79 = 0 ∧ ¬ (vi w64 0 8 = 5 ∧ sgv w64 (vi w64 0 6) = 59)) := by rw [et80]; split <;> simp_all
    clear et80
    refine hr_norm (st' := [zv (t79), .ref r]) rfl ?_
    have h7q82 := fl_b (fi := 7) (lo := 0) (hi := 1601) o65 hr0 rfl
    have h7q83 : vi w64 0 7 = vi w48 0 7 := (by rw [e67, if_neg (by omega)]; rw [e55, if_neg (by omega)])
    refine hr_cV (As := [zv (t79)]) (rest := []) C (h_must h r (t79) hr0 (by omega)) ⟨by decide, by decide⟩ iV_X12_must g_X12_254 TM0 hr0 dX12_readLine_227 rfl rfl (Nat.le_of_ble_eq_true rfl) rfl ⟨rfl, (by rw [e67, if_neg (by omega)]; rw [e55, if_neg (by omega)]; omega)⟩ (fun w84 rv o85 q86 => ?_)
    obtain ⟨s87, rfl, hem, hfm⟩ := q86
    refine hr_norm (st' := []) rfl ?_
    obtain ⟨S, hSe⟩ : ∃ S : Nat, Int.toNat ((5 * (vi ws 0 35)) + (vi ws 5 (Int.toNat (vi ws 0 35)))) = S := ⟨_, rfl⟩
    have hS1 : (S : Int) = 5 * (R : Int) + vi ws 5 R := by rw [← hSe, hT, h35]; omega
    have f5 : ∀ j : Nat, vi w84 5 j = if j = R then vi ws 5 j + 1 else vi ws 5 j := by
      intro j
      rw [show vi w84 5 j = vi w64 5 j from (by rw [sm_a o65 o85 s87 TMa_5 (by decide)]), e67]
      simp only [true_and]
      rw [hT]
      by_cases hj : j = R
      · rw [if_pos hj, if_pos hj, hj]
      · rw [if_neg hj, if_neg hj]; exact (by rw [e55, if_neg (by omega)]; rw [sm_a o4 o49 s51 TMa_5 (by decide)]; rw [sm_a how o4 s6 TMa_5 (by decide)]; rw [sm_a hwo how sm TMa_5 (by decide)])
    have f13 : ∀ j : Nat, vi w84 13 j = if j = S then zw else vi ws 13 j := by
      intro j
      rw [show vi w84 13 j = vi w52 13 j from (by rw [sm_a o65 o85 s87 TMa_13 (by decide)]; rw [e67, if_neg (by omega)]), e55]
      simp only [true_and]
      rw [hSe]
      by_cases hj : j = S
      · rw [if_pos hj, if_pos hj]
      · rw [if_neg hj, if_neg hj]; exact (by rw [sm_a o4 o49 s51 TMa_13 (by decide)]; rw [sm_a how o4 s6 TMa_13 (by decide)]; rw [sm_a hwo how sm TMa_13 (by decide)])
    have f14 : ∀ j : Nat, (j < 8 * S ∨ 8 * S + 8 ≤ j) → vi w84 14 j = vi ws 14 j := by
      intro j hj
      rw [show vi w84 14 j = vi w48 14 j from (by rw [sm_a o65 o85 s87 TMa_14 (by decide)]; rw [e67, if_neg (by omega)]; rw [e55, if_neg (by omega)]), zwj j (by omega)]
      exact (by rw [sm_a how o4 s6 TMa_14 (by decide)]; rw [sm_a hwo how sm TMa_14 (by decide)])
    have g14 : ∀ k : Nat, (k : Int) < zw → vi w84 14 (8 * S + k) < vi ws 3 R := by
      intro k hk
      have q1 := zwk k hk
      rw [show Int.toNat (8 * ((5 * (vi ws 0 35)) + (vi ws 5 (Int.toNat (vi ws 0 35)))) + (k : Int)) = 8 * S + k from by omega, show vi w3 0 35 = vi ws 0 35 from (by rw [sm_f how o4 s6 (by decide)]; rw [sm_f hwo how sm (by decide)]), hT, show vi w3 3 R = vi ws 3 R from (by rw [sm_a how o4 s6 TMa_3 (by decide)]; rw [sm_a hwo how sm TMa_3 (by decide)])] at q1
      rw [show vi w84 14 (8 * S + k) = vi w48 14 (8 * S + k) from (by rw [sm_a o65 o85 s87 TMa_14 (by decide)]; rw [e67, if_neg (by omega)]; rw [e55, if_neg (by omega)])]
      exact q1
    have f5R : vi w84 5 R = vi ws 5 R + 1 := by rw [f5, if_pos rfl]
    have : vi w84 3 R = vi ws 3 R := (by rw [sm_a o65 o85 s87 TMa_3 (by decide)]; rw [e67, if_neg (by omega)]; rw [e55, if_neg (by omega)]; rw [sm_a o4 o49 s51 TMa_3 (by decide)]; rw [sm_a how o4 s6 TMa_3 (by decide)]; rw [sm_a hwo how sm TMa_3 (by decide)])
    have : vi w84 4 R = vi ws 4 R := (by rw [sm_a o65 o85 s87 TMa_4 (by decide)]; rw [e67, if_neg (by omega)]; rw [e55, if_neg (by omega)]; rw [sm_a o4 o49 s51 TMa_4 (by decide)]; rw [sm_a how o4 s6 TMa_4 (by decide)]; rw [sm_a hwo how sm TMa_4 (by decide)])
    have : vi w84 17 R = vi ws 17 R := (by rw [sm_a o65 o85 s87 TMa_17 (by decide)]; rw [e67, if_neg (by omega)]; rw [e55, if_neg (by omega)]; rw [sm_a o4 o49 s51 TMa_17 (by decide)]; rw [sm_a how o4 s6 TMa_17 (by decide)]; rw [sm_a hwo how sm TMa_17 (by decide)])
    have : vi w84 18 R = vi ws 18 R := (by rw [sm_a o65 o85 s87 TMa_18 (by decide)]; rw [e67, if_neg (by omega)]; rw [e55, if_neg (by omega)]; rw [sm_a o4 o49 s51 TMa_18 (by decide)]; rw [sm_a how o4 s6 TMa_18 (by decide)]; rw [sm_a hwo how sm TMa_18 (by decide)])
    have : vi w84 19 R = vi ws 19 R := (by rw [sm_a o65 o85 s87 TMa_19 (by decide)]; rw [e67, if_neg (by omega)]; rw [e55, if_neg (by omega)]; rw [sm_a o4 o49 s51 TMa_19 (by decide)]; rw [sm_a how o4 s6 TMa_19 (by decide)]; rw [sm_a hwo how sm TMa_19 (by decide)])
    exact hr_vret C hlocks hr dX12_readLine_230 ⟨(fx_sm_tr (fx_sm_tr (fx_sm_tr (fx_sm_tr (fx_sm_tr (fx_sm_tr fx_sm_refl sm (by decide)) s6 (by decide)) s51 (by decide)) s54 (by decide)) s66 (by decide)) s87 (by decide)), rfl, (by omega), (TI_slip (S := S) (z := zw) hR h13 ti (by rw [sm_f o65 o85 s87 (by decide)]; rw [e67, if_neg (by omega)]; rw [e55, if_neg (by omega)]; rw [sm_f o4 o49 s51 (by decide)]; rw [sm_f how o4 s6 (by decide)]; rw [sm_f hwo how sm (by decide)]) (by rw [sm_f o65 o85 s87 (by decide)]; rw [e67, if_neg (by omega)]; rw [e55, if_neg (by omega)]; rw [sm_f o4 o49 s51 (by decide)]; rw [sm_f how o4 s6 (by decide)]; rw [sm_f hwo how sm (by decide)]) (by rw [sm_f o65 o85 s87 (by decide)]; rw [e67, if_neg (by omega)]; rw [e55, if_neg (by omega)]; rw [sm_f o4 o49 s51 (by decide)]; rw [sm_f how o4 s6 (by decide)]; rw [sm_f hwo how sm (by decide)]) hS1 ⟨by omega, by omega⟩ ⟨zw0, zw1⟩ (fun j => (by rw [sm_a o65 o85 s87 TMa_3 (by decide)]; rw [e67, if_neg (by omega)]; rw [e55, if_neg (by omega)]; rw [sm_a o4 o49 s51 TMa_3 (by decide)]; rw [sm_a how o4 s6 TMa_3 (by decide)]; rw [sm_a hwo how sm TMa_3 (by decide)])) (fun j => (by rw [sm_a o65 o85 s87 TMa_4 (by decide)]; rw [e67, if_neg (by omega)]; rw [e55, if_neg (by omega)]; rw [sm_a o4 o49 s51 TMa_4 (by decide)]; rw [sm_a how o4 s6 TMa_4 (by decide)]; rw [sm_a hwo how sm TMa_4 (by decide)])) f5 f13 f14 g14 (fun j => (by rw [sm_a o65 o85 s87 TMa_15 (by decide)]; rw [e67, if_neg (by omega)]; rw [e55, if_neg (by omega)]; rw [sm_a o4 o49 s51 TMa_15 (by decide)]; rw [sm_a how o4 s6 TMa_15 (by decide)]; rw [sm_a hwo how sm TMa_15 (by decide)])) (fun j => (by rw [sm_a o65 o85 s87 TMa_16 (by decide)]; rw [e67, if_neg (by omega)]; rw [e55, if_neg (by omega)]; rw [sm_a o4 o49 s51 TMa_16 (by decide)]; rw [sm_a how o4 s6 TMa_16 (by decide)]; rw [sm_a hwo how sm TMa_16 (by decide)])) (fun j => (by rw [sm_a o65 o85 s87 TMa_18 (by decide)]; rw [e67, if_neg (by omega)]; rw [e55, if_neg (by omega)]; rw [sm_a o4 o49 s51 TMa_18 (by decide)]; rw [sm_a how o4 s6 TMa_18 (by decide)]; rw [sm_a hwo how sm TMa_18 (by decide)])) (fun j => (by rw [sm_a o65 o85 s87 TMa_21 (by decide)]; rw [e67, if_neg (by omega)]; rw [e55, if_neg (by omega)]; rw [sm_a o4 o49 s51 TMa_21 (by decide)]; rw [sm_a how o4 s6 TMa_21 (by decide)]; rw [sm_a hwo how sm TMa_21 (by decide)]))), (by omega)⟩
  have k_miss : ∀ (x : Int64) (w : va_W), fx_wo (gsM, TM, cy, fun _ => True) ad w → fx_sm (gsM, TM, cy, fun _ => True) [(12, 4), (12, 5)] ws w → x.toInt = 1835627379 → vi ws 18 R = 0 → HW l E ad D cy (va_A ws s.heap.size) s.heap p e ({ frames := 6, cells := 0, slots := 0, locals := 128 }) s m ([.ref r]).toArray below meth c (MQ below (hQ ad D cy (fun _ ws rv ws1 => fx_sm (gsM, TM, cy, fun _ => True) [(12, 4), (12, 5), (12, 6), (12, 7), (12, 8), (12, 9), (12, 10), (12, 36), (12, 37), (12, 38), (12, 39), (1000, 6), (1000, 21), (1000, 22), (1000, 23), (1000, 24), (1000, 15), (1000, 16), (1000, 3), (1000, 4), (1000, 5), (1000, 7), (1000, 8), (1000, 9), (1000, 10), (1000, 11), (1000, 12), (1000, 13), (1000, 14), (1000, 17), (1000, 18), (1000, 19), (1000, 20)] ws ws1 ∧ rv = none ∧ vi ws1 0 7 ≤ 1600 ∧ TI ws0 ws1 R ∧ (1 ≤ vi ws1 0 4 ∨ vi ws 3 R + vi ws 4 R + vi ws 5 R + vi ws 17 R + vi ws 18 R + vi ws 19 R + 1 ≤ vi ws1 3 R + vi ws1 4 R + vi ws1 5 R + vi ws1 17 R + vi ws1 18 R + vi ws1 19 R)) ([.ref r]) ws s.heap.size) ([.ref r]).toArray s 0 0 (va_A ws s.heap.size)) cX12_readLine 4 yX12_readLine.cls 32 [(0, .ref r), (1, .long x)] [] w := by
    intro x w how sm hx hg
    obtain ⟨h36, -⟩ := hT8 hg
    refine hr_aln C 0 dX12_readLine_32 rfl rfl rfl ?_
    have h7q1 := fl_b (fi := 7) (lo := 0) (hi := 1601) how hr0 rfl
    have h7q2 : vi w 0 7 = vi ws 0 7 := (by rw [sm_f hwo how sm (by decide)])
    refine hr_cV (As := []) (rest := []) C (hM_fx (km292 h)) ⟨by decide, by decide⟩ iV_X12_goOn g_X12_245 TM0 hr0 dX12_readLine_33 rfl rfl (Nat.le_of_ble_eq_true rfl) rfl ⟨(ty_cons (ok_r hr0 (by decide) (by decide)) ty_nil), (fs_f how hr0 rfl ⟨_, _, rfl⟩ (by omega) (by omega))⟩ (fun w3 rv o4 q5 => ?_)
    obtain ⟨s6, po, hpo7, hrv8, hty9, rt, hfs10⟩ := q5
    replace s6 : fx_sm (gsM, TM, cy, fun _ => True) [(12, 6), (12, 7), (12, 8), (12, 9), (12, 10)] w w3 := s6
    simp only [km292_c, List.mem_cons, List.not_mem_nil, or_false] at hpo7
    subst hpo7
    obtain rfl := hrv8
    obtain ⟨⟨_, u11⟩, av12, g13, u14⟩ := fs_u (v0 := .ref r) rfl hfs10
    have hf15 := fs_t hnd o4 hr0 rfl u11
    have hf16 := fs_t hnd o4 hr0 g13 u14
    refine hr_norm (st' := []) rfl ?_
    refine hr_lln C 1 dX12_readLine_36 rfl rfl rfl ?_
    refine hr_ld2 C kc_X12_173 dX12_readLine_37 rfl ?_
    refine hr_lcq C dX12_readLine_40 rfl (fun z17 h18 h19 => ?_)
    replace h19 : z17 = 0 ↔ x.toInt = 2003792484 := h19
    refine hr_if C 48 dX12_readLine_41 (by decide) ⟨by omega, by omega⟩ rfl (fun c20 => ?_) (fun c20 => absurd (show (z17 : Int) = 0 from c20) (by omega))
    have c20 : ¬ (z17 : Int) = 0 := c20
    refine hr_lln C 1 dX12_readLine_48 rfl rfl rfl ?_
    refine hr_ld2 C kc_X12_177 dX12_readLine_49 rfl ?_
    refine hr_lcq C dX12_readLine_52 rfl (fun z21 h22 h23 => ?_)
    replace h23 : z21 = 0 ↔ x.toInt = 108187867505765 := h23
    refine hr_if C 60 dX12_readLine_53 (by decide) ⟨by omega, by omega⟩ rfl (fun c24 => ?_) (fun c24 => absurd (show (z21 : Int) = 0 from c24) (by omega))
    have c24 : ¬ (z21 : Int) = 0 := c24
    refine hr_lln C 1 dX12_readLine_60 rfl rfl rfl ?_
    refine hr_ld2 C kc_X12_179 dX12_readLine_61 rfl ?_
    refine hr_lcq C dX12_readLine_64 rfl (fun z25 h26 h27 => ?_)
    replace h27 : z25 = 0 ↔ x.toInt = 7499639 := h27
    refine hr_if C 104 dX12_readLine_65 (by decide) ⟨by omega, by omega⟩ rfl (fun c28 => ?_) (fun c28 => absurd (show (z25 : Int) = 0 from c28) (by omega))
    have c28 : ¬ (z25 : Int) = 0 := c28
    refine hr_lln C 1 dX12_readLine_104 rfl rfl rfl ?_
    refine hr_ld2 C kc_X12_181 dX12_readLine_105 rfl ?_
    refine hr_lcq C dX12_readLine_108 rfl (fun z29 h30 h31 => ?_)
    replace h31 : z29 = 0 ↔ x.toInt = 1936484720 := h31
    refine hr_if C 162 dX12_readLine_109 (by decide) ⟨by omega, by omega⟩ rfl (fun c32 => ?_) (fun c32 => absurd (show (z29 : Int) = 0 from c32) (by omega))
    have c32 : ¬ (z29 : Int) = 0 := c32
    refine hr_lln C 1 dX12_readLine_162 rfl rfl rfl ?_
    refine hr_ld2 C kc_X12_183 dX12_readLine_163 rfl ?_
    refine hr_lcq C dX12_readLine_166 rfl (fun z33 h34 h35 => ?_)
    replace h35 : z33 = 0 ↔ x.toInt = 1835627379 := h35
    obtain rfl : z33 = 0 := by omega
    refine hr_if C 185 dX12_readLine_167 (by decide) ⟨by omega, by omega⟩ rfl (fun c36 => absurd (show ¬ (0 : Int) = 0 from c36) (by omega)) (fun c36 => ?_)
    have c36 : (0 : Int) = 0 := c36
    refine hr_aln C 0 dX12_readLine_170 rfl rfl rfl ?_
    refine hr_gA (g := 18) C hr0 TM0 rfl (by decide) fl_X12_67 dX12_readLine_171 rfl (fun a37 ha38 => ?_)
    refine hr_aln C 0 dX12_readLine_174 rfl rfl rfl ?_
    refine hr_gI (lo := 0) (hi := 1) C hr0 TM0 rfl fl_X12_265 dX12_readLine_175 rfl (fun b39 b40 => ?_)
    have q41 : vi w3 0 35 = vi ws 0 35 := by rw [sm_f how o4 s6 (by decide)]; rw [sm_f hwo how sm (by decide)]
    rw [q41] at b39 b40 ⊢
    refine hr_ic C dX12_readLine_178 rfl ?_
    refine hr_zst C ha38 TMa_18 (by omega) (by omega) (by decide) (by omega) dX12_readLine_179 rfl (fun w42 o43 s44 e45 => ?_)
    refine hr_aln C 0 dX12_readLine_180 rfl rfl rfl ?_
    refine hr_ic C dX12_readLine_181 rfl ?_
    refine hr_cV (As := [zv (0)]) (rest := []) C (h_readRule h r (560 * R) hr0 (by omega)) ⟨by decide, by decide⟩ iV_X12_readRule g_X12_293 TM0 hr0 dX12_readLine_182 rfl rfl (Nat.le_of_ble_eq_true rfl) rfl ⟨rfl, (by rw [e45, if_neg (by omega)]; rw [sm_f how o4 s6 (by decide)]; rw [sm_f hwo how sm (by decide)]; omega), (by rw [e45, if_neg (by omega)]; omega)⟩ (fun w46 rv o47 q48 => ?_)
    obtain ⟨s49, rfl, he2, fr2, we2, a15, a16⟩ := q48
    refine hr_norm (st' := []) rfl ?_
    refine hr_lln C 1 dX12_readLine_185 rfl rfl rfl ?_
    refine hr_ld2 C kc_X12_185 dX12_readLine_186 rfl ?_
    refine hr_lcq C dX12_readLine_189 rfl (fun z50 h51 h52 => ?_)
    replace h52 : z50 = 0 ↔ x.toInt = 1685217655 := h52
    refine hr_if C 220 dX12_readLine_190 (by decide) ⟨by omega, by omega⟩ rfl (fun c53 => ?_) (fun c53 => absurd (show (z50 : Int) = 0 from c53) (by omega))
    have c53 : ¬ (z50 : Int) = 0 := c53
    refine hr_aln C 0 dX12_readLine_220 rfl rfl rfl ?_
    refine hr_aln C 0 dX12_readLine_221 rfl rfl rfl ?_
    refine hr_bi C dX12_readLine_222 (by decide +kernel) rfl ?_
    refine hr_cV (As := [zv (59)]) (rest := [.ref r]) C (h_isSignHere h r (59) hr0 ⟨by omega, by omega⟩) ⟨by decide, by decide⟩ iV_X12_isSignHere g_X12_262 TM0 hr0 dX12_readLine_224 rfl rfl (Nat.le_of_ble_eq_true rfl) rfl ⟨rfl, trivial⟩ (fun w54 rv o55 q56 => ?_)
    obtain ⟨rfl, rfl⟩ := q56
    obtain ⟨t57, et58⟩ : ∃ t, t = (if vi w46 0 8 = 5 ∧ sgv w46 (vi w46 0 6) = 59 then 1 else 0 : Int) := ⟨_, rfl⟩
    rw [← et58]
    have e59 : (t57 = 1 ∧ (vi w46 0 8 = 5 ∧ sgv w46 (vi w46 0 6) = 59)) ∨ (t57 = 0 ∧ ¬ (vi w46 0 8 = 5 ∧ sgv w46 (vi w46 0 6) = 59)) := by rw [et58]; split <;> simp_all
    clear et58
    refine hr_norm (st' := [zv (t57), .ref r]) rfl ?_
    have h7q60 := fl_b (fi := 7) (lo := 0) (hi := 1601) o47 hr0 rfl
    have h7q61 : vi w46 0 7 = vi w46 0 7 := rfl
    refine hr_cV (As := [zv (t57)]) (rest := []) C (h_must h r (t57) hr0 (by omega)) ⟨by decide, by decide⟩ iV_X12_must g_X12_254 TM0 hr0 dX12_readLine_227 rfl rfl (Nat.le_of_ble_eq_true rfl) rfl ⟨rfl, (by omega)⟩ (fun w62 rv o63 q64 => ?_)
    obtain ⟨s65, rfl, hem, hfm⟩ := q64
    refine hr_norm (st' := []) rfl ?_
    have aB : vi w62 18 R = 1 := by rw [show vi w62 18 R = vi w42 18 R from (by rw [sm_a o47 o63 s65 TMa_18 (by decide)]; rw [sm_a o43 o47 s49 TMa_18 (by decide)]), e45, if_pos ⟨rfl, hT.symm⟩]
    have e36 : vi w62 0 36 = vi w46 0 36 := (by rw [sm_f o47 o63 s65 (by decide)])
    have f15 : ∀ j : Nat, vi w62 15 j = if j = R then 560 * (R : Int) else vi ws 15 j := by
      intro j
      rw [show vi w62 15 j = vi w46 15 j from (by rw [sm_a o47 o63 s65 TMa_15 (by decide)]), a15, show vi w42 0 35 = vi ws 0 35 from (by rw [e45, if_neg (by omega)]; rw [sm_f how o4 s6 (by decide)]; rw [sm_f hwo how sm (by decide)]), hT, show vi w42 15 j = vi ws 15 j from (by rw [e45, if_neg (by omega)]; rw [sm_a how o4 s6 TMa_15 (by decide)]; rw [sm_a hwo how sm TMa_15 (by decide)])]
      split <;> first | omega | rfl
    have f16 : ∀ j : Nat, vi w62 16 j = if j = R then vi w62 0 36 else vi ws 16 j := by
      intro j
      rw [show vi w62 16 j = vi w46 16 j from (by rw [sm_a o47 o63 s65 TMa_16 (by decide)]), a16, show vi w42 0 35 = vi ws 0 35 from (by rw [e45, if_neg (by omega)]; rw [sm_f how o4 s6 (by decide)]; rw [sm_f hwo how sm (by decide)]), hT, show vi w42 16 j = vi ws 16 j from (by rw [e45, if_neg (by omega)]; rw [sm_a how o4 s6 TMa_16 (by decide)]; rw [sm_a hwo how sm TMa_16 (by decide)]), e36]
    have frf : FRc ws w62 (560 * R) := FRc_tr (FRc_tr (FRc_eq (fun j => (by rw [e45, if_neg (by omega)]; rw [sm_a how o4 s6 TMa_21 (by decide)]; rw [sm_a hwo how sm TMa_21 (by decide)]))) fr2) (FRc_eq (fun j => (by rw [sm_a o47 o63 s65 TMa_21 (by decide)])))
    have wef : WE w62 (560 * R) := WE_c (w := w46) e36 (fun j => (by rw [sm_a o47 o63 s65 TMa_21 (by decide)])) we2
    have : vi w62 3 R = vi ws 3 R := (by rw [sm_a o47 o63 s65 TMa_3 (by decide)]; rw [sm_a o43 o47 s49 TMa_3 (by decide)]; rw [e45, if_neg (by omega)]; rw [sm_a how o4 s6 TMa_3 (by decide)]; rw [sm_a hwo how sm TMa_3 (by decide)])
    have : vi w62 4 R = vi ws 4 R := (by rw [sm_a o47 o63 s65 TMa_4 (by decide)]; rw [sm_a o43 o47 s49 TMa_4 (by decide)]; rw [e45, if_neg (by omega)]; rw [sm_a how o4 s6 TMa_4 (by decide)]; rw [sm_a hwo how sm TMa_4 (by decide)])
    have : vi w62 5 R = vi ws 5 R := (by rw [sm_a o47 o63 s65 TMa_5 (by decide)]; rw [sm_a o43 o47 s49 TMa_5 (by decide)]; rw [e45, if_neg (by omega)]; rw [sm_a how o4 s6 TMa_5 (by decide)]; rw [sm_a hwo how sm TMa_5 (by decide)])
    have : vi w62 17 R = vi ws 17 R := (by rw [sm_a o47 o63 s65 TMa_17 (by decide)]; rw [sm_a o43 o47 s49 TMa_17 (by decide)]; rw [e45, if_neg (by omega)]; rw [sm_a how o4 s6 TMa_17 (by decide)]; rw [sm_a hwo how sm TMa_17 (by decide)])
    have : vi w62 19 R = vi ws 19 R := (by rw [sm_a o47 o63 s65 TMa_19 (by decide)]; rw [sm_a o43 o47 s49 TMa_19 (by decide)]; rw [e45, if_neg (by omega)]; rw [sm_a how o4 s6 TMa_19 (by decide)]; rw [sm_a hwo how sm TMa_19 (by decide)])
    exact hr_vret C hlocks hr dX12_readLine_230 ⟨(fx_sm_tr (fx_sm_tr (fx_sm_tr (fx_sm_tr (fx_sm_tr fx_sm_refl sm (by decide)) s6 (by decide)) s44 (by decide)) s49 (by decide)) s65 (by decide)), rfl, (by omega), (TI_miss ti (by rw [sm_f o47 o63 s65 (by decide)]; rw [sm_f o43 o47 s49 (by decide)]; rw [e45, if_neg (by omega)]; rw [sm_f how o4 s6 (by decide)]; rw [sm_f hwo how sm (by decide)]) (by rw [sm_f o47 o63 s65 (by decide)]; rw [sm_f o43 o47 s49 (by decide)]; rw [e45, if_neg (by omega)]; rw [sm_f how o4 s6 (by decide)]; rw [sm_f hwo how sm (by decide)]) (fun j => (by rw [sm_a o47 o63 s65 TMa_3 (by decide)]; rw [sm_a o43 o47 s49 TMa_3 (by decide)]; rw [e45, if_neg (by omega)]; rw [sm_a how o4 s6 TMa_3 (by decide)]; rw [sm_a hwo how sm TMa_3 (by decide)])) (fun j => (by rw [sm_a o47 o63 s65 TMa_4 (by decide)]; rw [sm_a o43 o47 s49 TMa_4 (by decide)]; rw [e45, if_neg (by omega)]; rw [sm_a how o4 s6 TMa_4 (by decide)]; rw [sm_a hwo how sm TMa_4 (by decide)])) (fun j => (by rw [sm_a o47 o63 s65 TMa_5 (by decide)]; rw [sm_a o43 o47 s49 TMa_5 (by decide)]; rw [e45, if_neg (by omega)]; rw [sm_a how o4 s6 TMa_5 (by decide)]; rw [sm_a hwo how sm TMa_5 (by decide)])) (fun j => (by rw [sm_a o47 o63 s65 TMa_13 (by decide)]; rw [sm_a o43 o47 s49 TMa_13 (by decide)]; rw [e45, if_neg (by omega)]; rw [sm_a how o4 s6 TMa_13 (by decide)]; rw [sm_a hwo how sm TMa_13 (by decide)])) (fun j => (by rw [sm_a o47 o63 s65 TMa_14 (by decide)]; rw [sm_a o43 o47 s49 TMa_14 (by decide)]; rw [e45, if_neg (by omega)]; rw [sm_a how o4 s6 TMa_14 (by decide)]; rw [sm_a hwo how sm TMa_14 (by decide)])) f15 f16 aB frf wef), (by omega)⟩
  have k_draw : ∀ (x : Int64) (w : va_W), fx_wo (gsM, TM, cy, fun _ => True) ad w → fx_sm (gsM, TM, cy, fun _ => True) [(12, 4), (12, 5)] ws w → x.toInt = 1685217655 → vi ws 19 R = 0 → HW l E ad D cy (va_A ws s.heap.size) s.heap p e ({ frames := 6, cells := 0, slots := 0, locals := 128 }) s m ([.ref r]).toArray below meth c (MQ below (hQ ad D cy (fun _ ws rv ws1 => fx_sm (gsM, TM, cy, fun _ => True) [(12, 4), (12, 5), (12, 6), (12, 7), (12, 8), (12, 9), (12, 10), (12, 36), (12, 37), (12, 38), (12, 39), (1000, 6), (1000, 21), (1000, 22), (1000, 23), (1000, 24), (1000, 15), (1000, 16), (1000, 3), (1000, 4), (1000, 5), (1000, 7), (1000, 8), (1000, 9), (1000, 10), (1000, 11), (1000, 12), (1000, 13), (1000, 14), (1000, 17), (1000, 18), (1000, 19), (1000, 20)] ws ws1 ∧ rv = none ∧ vi ws1 0 7 ≤ 1600 ∧ TI ws0 ws1 R ∧ (1 ≤ vi ws1 0 4 ∨ vi ws 3 R + vi ws 4 R + vi ws 5 R + vi ws 17 R + vi ws 18 R + vi ws 19 R + 1 ≤ vi ws1 3 R + vi ws1 4 R + vi ws1 5 R + vi ws1 17 R + vi ws1 18 R + vi ws1 19 R)) ([.ref r]) ws s.heap.size) ([.ref r]).toArray s 0 0 (va_A ws s.heap.size)) cX12_readLine 4 yX12_readLine.cls 32 [(0, .ref r), (1, .long x)] [] w := by
    intro x w how sm hx hg
    refine hr_aln C 0 dX12_readLine_32 rfl rfl rfl ?_
    have h7q1 := fl_b (fi := 7) (lo := 0) (hi := 1601) how hr0 rfl
    have h7q2 : vi w 0 7 = vi ws 0 7 := (by rw [sm_f hwo how sm (by decide)])
    refine hr_cV (As := []) (rest := []) C (hM_fx (km292 h)) ⟨by decide, by decide⟩ iV_X12_goOn g_X12_245 TM0 hr0 dX12_readLine_33 rfl rfl (Nat.le_of_ble_eq_true rfl) rfl ⟨(ty_cons (ok_r hr0 (by decide) (by decide)) ty_nil), (fs_f how hr0 rfl ⟨_, _, rfl⟩ (by omega) (by omega))⟩ (fun w3 rv o4 q5 => ?_)
    obtain ⟨s6, po, hpo7, hrv8, hty9, rt, hfs10⟩ := q5
    replace s6 : fx_sm (gsM, TM, cy, fun _ => True) [(12, 6), (12, 7), (12, 8), (12, 9), (12, 10)] w w3 := s6
    simp only [km292_c, List.mem_cons, List.not_mem_nil, or_false] at hpo7
    subst hpo7
    obtain rfl := hrv8
    obtain ⟨⟨_, u11⟩, av12, g13, u14⟩ := fs_u (v0 := .ref r) rfl hfs10
    have hf15 := fs_t hnd o4 hr0 rfl u11
    have hf16 := fs_t hnd o4 hr0 g13 u14
    refine hr_norm (st' := []) rfl ?_
    refine hr_lln C 1 dX12_readLine_36 rfl rfl rfl ?_
    refine hr_ld2 C kc_X12_173 dX12_readLine_37 rfl ?_
    refine hr_lcq C dX12_readLine_40 rfl (fun z17 h18 h19 => ?_)
    replace h19 : z17 = 0 ↔ x.toInt = 2003792484 := h19
    refine hr_if C 48 dX12_readLine_41 (by decide) ⟨by omega, by omega⟩ rfl (fun c20 => ?_) (fun c20 => absurd (show (z17 : Int) = 0 from c20) (by omega))
    have c20 : ¬ (z17 : Int) = 0 := c20
    refine hr_lln C 1 dX12_readLine_48 rfl rfl rfl ?_
    refine hr_ld2 C kc_X12_177 dX12_readLine_49 rfl ?_
    refine hr_lcq C dX12_readLine_52 rfl (fun z21 h22 h23 => ?_)
    replace h23 : z21 = 0 ↔ x.toInt = 108187867505765 := h23
    refine hr_if C 60 dX12_readLine_53 (by decide) ⟨by omega, by omega⟩ rfl (fun c24 => ?_) (fun c24 => absurd (show (z21 : Int) = 0 from c24) (by omega))
    have c24 : ¬ (z21 : Int) = 0 := c24
    refine hr_lln C 1 dX12_readLine_60 rfl rfl rfl ?_
    refine hr_ld2 C kc_X12_179 dX12_readLine_61 rfl ?_
    refine hr_lcq C dX12_readLine_64 rfl (fun z25 h26 h27 => ?_)
    replace h27 : z25 = 0 ↔ x.toInt = 7499639 := h27
    refine hr_if C 104 dX12_readLine_65 (by decide) ⟨by omega, by omega⟩ rfl (fun c28 => ?_) (fun c28 => absurd (show (z25 : Int) = 0 from c28) (by omega))
    have c28 : ¬ (z25 : Int) = 0 := c28
    refine hr_lln C 1 dX12_readLine_104 rfl rfl rfl ?_
    refine hr_ld2 C kc_X12_181 dX12_readLine_105 rfl ?_
    refine hr_lcq C dX12_readLine_108 rfl (fun z29 h30 h31 => ?_)
    replace h31 : z29 = 0 ↔ x.toInt = 1936484720 := h31
    refine hr_if C 162 dX12_readLine_109 (by decide) ⟨by omega, by omega⟩ rfl (fun c32 => ?_) (fun c32 => absurd (show (z29 : Int) = 0 from c32) (by omega))
    have c32 : ¬ (z29 : Int) = 0 := c32
    refine hr_lln C 1 dX12_readLine_162 rfl rfl rfl ?_
    refine hr_ld2 C kc_X12_183 dX12_readLine_163 rfl ?_
    refine hr_lcq C dX12_readLine_166 rfl (fun z33 h34 h35 => ?_)
    replace h35 : z33 = 0 ↔ x.toInt = 1835627379 := h35
    refine hr_if C 185 dX12_readLine_167 (by decide) ⟨by omega, by omega⟩ rfl (fun c36 => ?_) (fun c36 => absurd (show (z33 : Int) = 0 from c36) (by omega))
    have c36 : ¬ (z33 : Int) = 0 := c36
    refine hr_lln C 1 dX12_readLine_185 rfl rfl rfl ?_
    refine hr_ld2 C kc_X12_185 dX12_readLine_186 rfl ?_
    refine hr_lcq C dX12_readLine_189 rfl (fun z37 h38 h39 => ?_)
    replace h39 : z37 = 0 ↔ x.toInt = 1685217655 := h39
    obtain rfl : z37 = 0 := by omega
    refine hr_if C 220 dX12_readLine_190 (by decide) ⟨by omega, by omega⟩ rfl (fun c40 => absurd (show ¬ (0 : Int) = 0 from c40) (by omega)) (fun c40 => ?_)
    have c40 : (0 : Int) = 0 := c40
    refine hr_aln C 0 dX12_readLine_193 rfl rfl rfl ?_
    refine hr_gA (g := 19) C hr0 TM0 rfl (by decide) fl_X12_70 dX12_readLine_194 rfl (fun a41 ha42 => ?_)
    refine hr_aln C 0 dX12_readLine_197 rfl rfl rfl ?_
    refine hr_gI (lo := 0) (hi := 1) C hr0 TM0 rfl fl_X12_265 dX12_readLine_198 rfl (fun b43 b44 => ?_)
    have q45 : vi w3 0 35 = vi ws 0 35 := by rw [sm_f how o4 s6 (by decide)]; rw [sm_f hwo how sm (by decide)]
    rw [q45] at b43 b44 ⊢
    refine hr_ic C dX12_readLine_201 rfl ?_
    refine hr_zst C ha42 TMa_19 (by omega) (by omega) (by decide) (by omega) dX12_readLine_202 rfl (fun w46 o47 s48 e49 => ?_)
    refine hr_aln C 0 dX12_readLine_203 rfl rfl rfl ?_
    refine hr_gA (g := 7) C hr0 TM0 rfl (by decide) fl_X12_33 dX12_readLine_204 rfl (fun a50 ha51 => ?_)
    refine hr_aln C 0 dX12_readLine_207 rfl rfl rfl ?_
    refine hr_gI (lo := 0) (hi := 1) C hr0 TM0 rfl fl_X12_265 dX12_readLine_208 rfl (fun b52 b53 => ?_)
    have q54 : vi w46 0 35 = vi ws 0 35 := by rw [e49, if_neg (by omega)]; rw [sm_f how o4 s6 (by decide)]; rw [sm_f hwo how sm (by decide)]
    rw [q54] at b52 b53 ⊢
    refine hr_aln C 0 dX12_readLine_211 rfl rfl rfl ?_
    refine hr_ic C dX12_readLine_212 rfl ?_
    refine hr_si C dX12_readLine_213 (by decide +kernel) rfl ?_
    refine hr_cV (As := [zv (0), zv (999)]) (rest := [zv (vi ws 0 35), .ref a50]) C (h_numeral h r hr0) ⟨by decide, by decide⟩ iV_X12_numeral g_X12_258 TM0 hr0 dX12_readLine_216 rfl rfl (Nat.le_of_ble_eq_true rfl) rfl ⟨rfl, (by rw [e49, if_neg (by omega)]; omega)⟩ (fun w55 rv o56 q57 => ?_)
    obtain ⟨s58, he2, zn, rfl, zn0, zn1⟩ := q57
    refine hr_norm (st' := [zv (zn), zv (vi ws 0 35), .ref a50]) rfl ?_
    refine hr_ast C ha51 TMa_7 (by omega) (by omega) (by decide) ⟨by omega, by omega⟩ (hp1 (by omega) (by omega)) dX12_readLine_219 rfl (fun w59 o60 s61 e62 => ?_)
    refine hr_aln C 0 dX12_readLine_220 rfl rfl rfl ?_
    refine hr_aln C 0 dX12_readLine_221 rfl rfl rfl ?_
    refine hr_bi C dX12_readLine_222 (by decide +kernel) rfl ?_
    refine hr_cV (As := [zv (59)]) (rest := [.ref r]) C (h_isSignHere h r (59) hr0 ⟨by omega, by omega⟩) ⟨by decide, by decide⟩ iV_X12_isSignHere g_X12_262 TM0 hr0 dX12_readLine_224 rfl rfl (Nat.le_of_ble_eq_true rfl) rfl ⟨rfl, trivial⟩ (fun w63 rv o64 q65 => ?_)
    obtain ⟨rfl, rfl⟩ := q65
    obtain ⟨t66, et67⟩ : ∃ t, t = (if vi w59 0 8 = 5 ∧ sgv w59 (vi w59 0 6) = 59 then 1 else 0 : Int) := ⟨_, rfl⟩
    rw [← et67]
    have e68 : (t66 = 1 ∧ (vi w59 0 8 = 5 ∧ sgv w59 (vi w59 0 6) = 59)) ∨ (t66 = 0 ∧ ¬ (vi w59 0 8 = 5 ∧ sgv w59 (vi w59 0 6) = 59)) := by rw [et67]; split <;> simp_all
    clear et67
    refine hr_norm (st' := [zv (t66), .ref r]) rfl ?_
    have h7q69 := fl_b (fi := 7) (lo := 0) (hi := 1601) o60 hr0 rfl
    have h7q70 : vi w59 0 7 = vi w55 0 7 := (by rw [e62, if_neg (by omega)])
    refine hr_cV (As := [zv (t66)]) (rest := []) C (h_must h r (t66) hr0 (by omega)) ⟨by decide, by decide⟩ iV_X12_must g_X12_254 TM0 hr0 dX12_readLine_227 rfl rfl (Nat.le_of_ble_eq_true rfl) rfl ⟨rfl, (by rw [e62, if_neg (by omega)]; omega)⟩ (fun w71 rv o72 q73 => ?_)
    obtain ⟨s74, rfl, hem, hfm⟩ := q73
    refine hr_norm (st' := []) rfl ?_
    have aB : vi w71 19 R = 1 := by rw [show vi w71 19 R = vi w46 19 R from (by rw [sm_a o60 o72 s74 TMa_19 (by decide)]; rw [e62, if_neg (by omega)]; rw [sm_a o47 o56 s58 TMa_19 (by decide)]), e49, if_pos ⟨rfl, hT.symm⟩]
    have : vi w71 3 R = vi ws 3 R := (by rw [sm_a o60 o72 s74 TMa_3 (by decide)]; rw [e62, if_neg (by omega)]; rw [sm_a o47 o56 s58 TMa_3 (by decide)]; rw [e49, if_neg (by omega)]; rw [sm_a how o4 s6 TMa_3 (by decide)]; rw [sm_a hwo how sm TMa_3 (by decide)])
    have : vi w71 4 R = vi ws 4 R := (by rw [sm_a o60 o72 s74 TMa_4 (by decide)]; rw [e62, if_neg (by omega)]; rw [sm_a o47 o56 s58 TMa_4 (by decide)]; rw [e49, if_neg (by omega)]; rw [sm_a how o4 s6 TMa_4 (by decide)]; rw [sm_a hwo how sm TMa_4 (by decide)])
    have : vi w71 5 R = vi ws 5 R := (by rw [sm_a o60 o72 s74 TMa_5 (by decide)]; rw [e62, if_neg (by omega)]; rw [sm_a o47 o56 s58 TMa_5 (by decide)]; rw [e49, if_neg (by omega)]; rw [sm_a how o4 s6 TMa_5 (by decide)]; rw [sm_a hwo how sm TMa_5 (by decide)])
    have : vi w71 17 R = vi ws 17 R := (by rw [sm_a o60 o72 s74 TMa_17 (by decide)]; rw [e62, if_neg (by omega)]; rw [sm_a o47 o56 s58 TMa_17 (by decide)]; rw [e49, if_neg (by omega)]; rw [sm_a how o4 s6 TMa_17 (by decide)]; rw [sm_a hwo how sm TMa_17 (by decide)])
    have : vi w71 18 R = vi ws 18 R := (by rw [sm_a o60 o72 s74 TMa_18 (by decide)]; rw [e62, if_neg (by omega)]; rw [sm_a o47 o56 s58 TMa_18 (by decide)]; rw [e49, if_neg (by omega)]; rw [sm_a how o4 s6 TMa_18 (by decide)]; rw [sm_a hwo how sm TMa_18 (by decide)])
    exact hr_vret C hlocks hr dX12_readLine_230 ⟨(fx_sm_tr (fx_sm_tr (fx_sm_tr (fx_sm_tr (fx_sm_tr (fx_sm_tr fx_sm_refl sm (by decide)) s6 (by decide)) s48 (by decide)) s58 (by decide)) s61 (by decide)) s74 (by decide)), rfl, (by omega), (TI_x (d := 0) ti (by rw [sm_f o60 o72 s74 (by decide)]; rw [e62, if_neg (by omega)]; rw [sm_f o47 o56 s58 (by decide)]; rw [e49, if_neg (by omega)]; rw [sm_f how o4 s6 (by decide)]; rw [sm_f hwo how sm (by decide)]) (by rw [sm_f o60 o72 s74 (by decide)]; rw [e62, if_neg (by omega)]; rw [sm_f o47 o56 s58 (by decide)]; rw [e49, if_neg (by omega)]; rw [sm_f how o4 s6 (by decide)]; rw [sm_f hwo how sm (by decide)]) (by rw [sm_f o60 o72 s74 (by decide)]; rw [e62, if_neg (by omega)]; rw [sm_f o47 o56 s58 (by decide)]; rw [e49, if_neg (by omega)]; rw [sm_f how o4 s6 (by decide)]; rw [sm_f hwo how sm (by decide)]) (by omega) (fun j => by rw [Int.add_zero, ite_self]; exact (by rw [sm_a o60 o72 s74 TMa_3 (by decide)]; rw [e62, if_neg (by omega)]; rw [sm_a o47 o56 s58 TMa_3 (by decide)]; rw [e49, if_neg (by omega)]; rw [sm_a how o4 s6 TMa_3 (by decide)]; rw [sm_a hwo how sm TMa_3 (by decide)])) (by rw [show vi w71 4 R = vi ws 4 R from (by rw [sm_a o60 o72 s74 TMa_4 (by decide)]; rw [e62, if_neg (by omega)]; rw [sm_a o47 o56 s58 TMa_4 (by decide)]; rw [e49, if_neg (by omega)]; rw [sm_a how o4 s6 TMa_4 (by decide)]; rw [sm_a hwo how sm TMa_4 (by decide)])]; exact hT4) (fun j => (by rw [sm_a o60 o72 s74 TMa_5 (by decide)]; rw [e62, if_neg (by omega)]; rw [sm_a o47 o56 s58 TMa_5 (by decide)]; rw [e49, if_neg (by omega)]; rw [sm_a how o4 s6 TMa_5 (by decide)]; rw [sm_a hwo how sm TMa_5 (by decide)])) (fun j => (by rw [sm_a o60 o72 s74 TMa_13 (by decide)]; rw [e62, if_neg (by omega)]; rw [sm_a o47 o56 s58 TMa_13 (by decide)]; rw [e49, if_neg (by omega)]; rw [sm_a how o4 s6 TMa_13 (by decide)]; rw [sm_a hwo how sm TMa_13 (by decide)])) (fun j => (by rw [sm_a o60 o72 s74 TMa_14 (by decide)]; rw [e62, if_neg (by omega)]; rw [sm_a o47 o56 s58 TMa_14 (by decide)]; rw [e49, if_neg (by omega)]; rw [sm_a how o4 s6 TMa_14 (by decide)]; rw [sm_a hwo how sm TMa_14 (by decide)])) (fun j => (by rw [sm_a o60 o72 s74 TMa_15 (by decide)]; rw [e62, if_neg (by omega)]; rw [sm_a o47 o56 s58 TMa_15 (by decide)]; rw [e49, if_neg (by omega)]; rw [sm_a how o4 s6 TMa_15 (by decide)]; rw [sm_a hwo how sm TMa_15 (by decide)])) (fun j => (by rw [sm_a o60 o72 s74 TMa_16 (by decide)]; rw [e62, if_neg (by omega)]; rw [sm_a o47 o56 s58 TMa_16 (by decide)]; rw [e49, if_neg (by omega)]; rw [sm_a how o4 s6 TMa_16 (by decide)]; rw [sm_a hwo how sm TMa_16 (by decide)])) (fun j => (by rw [sm_a o60 o72 s74 TMa_18 (by decide)]; rw [e62, if_neg (by omega)]; rw [sm_a o47 o56 s58 TMa_18 (by decide)]; rw [e49, if_neg (by omega)]; rw [sm_a how o4 s6 TMa_18 (by decide)]; rw [sm_a hwo how sm TMa_18 (by decide)])) (fun j => (by rw [sm_a o60 o72 s74 TMa_21 (by decide)]; rw [e62, if_neg (by omega)]; rw [sm_a o47 o56 s58 TMa_21 (by decide)]; rw [e49, if_neg (by omega)]; rw [sm_a how o4 s6 TMa_21 (by decide)]; rw [sm_a hwo how sm TMa_21 (by decide)]))), (by omega)⟩
  refine hr_aln C 0 dX12_readLine_0 rfl rfl rfl ?_
  refine hr_gN C hr0 TM0 rfl fl_X12_220 dX12_readLine_1 rfl (fun x1 hx2 => ?_)
  refine hr_lsn (lv' := [(1, .long x1), (0, .ref r)]) C dX12_readLine_4 rfl (by decide) rfl rfl ?_
  refine hr_aln C 1 dX12_readLine_5 rfl rfl rfl ?_
  refine hr_gI (lo := -2147483648) (hi := 2147483647) C hr0 TM0 rfl fl_X12_213 dX12_readLine_6 rfl (fun b3 b4 => ?_)
  refine hr_ic C dX12_readLine_9 rfl ?_
  refine hr_cmp C 20 dX12_readLine_10 (by decide) ⟨by omega, by omega⟩ ⟨by omega, by omega⟩ rfl (fun c5 => ?_) (fun c5 => ?_)
  · have c5 : ¬ (vi ws 0 8 : Int) = 3 := c5
    refine hr_aln C 1 dX12_readLine_20 rfl rfl rfl ?_
    refine hr_cV (As := []) (rest := []) C (hM_fx (km295 h)) ⟨by decide, by decide⟩ iV_X12_misplaced g_X12_248 TM0 hr0 dX12_readLine_21 rfl rfl (Nat.le_of_ble_eq_true rfl) rfl ⟨(ty_cons (ok_r hr0 (by decide) (by decide)) ty_nil), ⟨_, rfl⟩⟩ (fun w6 rv o7 q8 => ?_)
    obtain ⟨s9, po, hpo10, hrv11, hty12, rt, hfs13⟩ := q8
    replace s9 : fx_sm (gsM, TM, cy, fun _ => True) [(12, 4), (12, 5)] ws w6 := s9
    simp only [km295_c, List.mem_cons, List.not_mem_nil, or_false] at hpo10
    subst hpo10
    obtain rfl := hrv11
    have hf14 := fs_t hnd o7 hr0 rfl hfs13
    refine hr_norm (st' := []) rfl ?_
    refine hr_aln C 1 dX12_readLine_24 rfl rfl rfl ?_
    refine hr_cV (As := []) (rest := []) C (hM_fx (km293 h)) ⟨by decide, by decide⟩ iV_X12_isGood g_X12_241 TM0 hr0 dX12_readLine_25 rfl rfl (Nat.le_of_ble_eq_true rfl) rfl ⟨(ty_cons (ok_r hr0 (by decide) (by decide)) ty_nil), ⟨_, rfl⟩⟩ (fun w15 rv o16 q17 => ?_)
    obtain ⟨s18, po, hpo19, hrv20, hty21, rt, hfs22⟩ := q17
    replace s18 : fx_sm (gsM, TM, cy, fun _ => True) [] w6 w15 := s18
    simp only [km293_c, List.mem_cons, List.not_mem_nil, or_false] at hpo19
    rcases hpo19 with rfl | rfl
    · obtain ⟨v23, rfl, hv24⟩ := hrv20
      obtain ⟨z25, rfl, b26, b27, b28⟩ := ok_iz hv24
      simp only [rg] at b28
      obtain rfl : z25 = 1 := by omega
      have hf29 := fs_t hnd o16 hr0 rfl hfs22
      refine hr_norm (st' := [zv (1)]) rfl ?_
      refine hr_if C 32 dX12_readLine_28 (by decide) ⟨by omega, by omega⟩ rfl (fun c30 => ?_) (fun c30 => absurd (show (1 : Int) = 0 from c30) (by omega))
      have c30 : ¬ (1 : Int) = 0 := c30
      have : vi w15 0 4 = vi w6 0 4 := (by rw [sm_f o7 o16 s18 (by decide)])
      have : vi w6 0 4 = vi w6 0 4 := rfl
      refine hr_pick (lv' := [(0, .ref r), (1, .long x1)]) [1, 0] rfl ?_
      have hsm : fx_sm (gsM, TM, cy, fun _ => True) [(12, 4), (12, 5)] ws w15 := (fx_sm_tr (fx_sm_tr fx_sm_refl s9 (by decide)) s18 (by decide))
      have fu : ((x1.toInt = 2003792484 ∧ ¬ vi ws 3 R = 9) ∨ (x1.toInt = 108187867505765 ∧ ¬ vi ws 4 R = 20) ∨ (x1.toInt = 7499639 ∧ vi ws 17 R = 0) ∨ (x1.toInt = 1936484720 ∧ ¬ vi ws 5 R = 5) ∨ (x1.toInt = 1835627379 ∧ vi ws 18 R = 0) ∨ (x1.toInt = 1685217655 ∧ vi ws 19 R = 0)) := by omega
      rcases fu with ⟨fx, fg⟩ | ⟨fx, fg⟩ | ⟨fx, fg⟩ | ⟨fx, fg⟩ | ⟨fx, fg⟩ | ⟨fx, fg⟩
      · exact k_word _ _ o16 hsm fx fg
      · exact k_beside _ _ o16 hsm fx fg
      · exact k_row _ _ o16 hsm fx fg
      · exact k_slip _ _ o16 hsm fx fg
      · exact k_miss _ _ o16 hsm fx fg
      · exact k_draw _ _ o16 hsm fx fg
    · obtain ⟨v31, rfl, hv32⟩ := hrv20
      obtain ⟨z33, rfl, b34, b35, b36⟩ := ok_iz hv32
      simp only [rg] at b36
      obtain rfl : z33 = 0 := by omega
      have hf37 := fs_t hnd o16 hr0 rfl hfs22
      refine hr_norm (st' := [zv (0)]) rfl ?_
      refine hr_if C 32 dX12_readLine_28 (by decide) ⟨by omega, by omega⟩ rfl (fun c38 => absurd (show ¬ (0 : Int) = 0 from c38) (by omega)) (fun c38 => ?_)
      have c38 : (0 : Int) = 0 := c38
      have : vi w15 0 4 = vi w6 0 4 := (by rw [sm_f o7 o16 s18 (by decide)])
      have : vi w6 0 4 = vi w6 0 4 := rfl
      exact hr_vret C hlocks hr dX12_readLine_31 ⟨(fx_sm_tr (fx_sm_tr fx_sm_refl s9 (by decide)) s18 (by decide)), rfl, (by rw [sm_f o7 o16 s18 (by decide)]; rw [sm_f hwo o7 s9 (by decide)]; omega), (TI_x (d := 0) ti (by rw [sm_f o7 o16 s18 (by decide)]; rw [sm_f hwo o7 s9 (by decide)]) (by rw [sm_f o7 o16 s18 (by decide)]; rw [sm_f hwo o7 s9 (by decide)]) (by rw [sm_f o7 o16 s18 (by decide)]; rw [sm_f hwo o7 s9 (by decide)]) (by omega) (fun j => by rw [Int.add_zero, ite_self]; exact (by rw [sm_a o7 o16 s18 TMa_3 (by decide)]; rw [sm_a hwo o7 s9 TMa_3 (by decide)])) (by rw [show vi w15 4 R = vi ws 4 R from (by rw [sm_a o7 o16 s18 TMa_4 (by decide)]; rw [sm_a hwo o7 s9 TMa_4 (by decide)])]; exact hT4) (fun j => (by rw [sm_a o7 o16 s18 TMa_5 (by decide)]; rw [sm_a hwo o7 s9 TMa_5 (by decide)])) (fun j => (by rw [sm_a o7 o16 s18 TMa_13 (by decide)]; rw [sm_a hwo o7 s9 TMa_13 (by decide)])) (fun j => (by rw [sm_a o7 o16 s18 TMa_14 (by decide)]; rw [sm_a hwo o7 s9 TMa_14 (by decide)])) (fun j => (by rw [sm_a o7 o16 s18 TMa_15 (by decide)]; rw [sm_a hwo o7 s9 TMa_15 (by decide)])) (fun j => (by rw [sm_a o7 o16 s18 TMa_16 (by decide)]; rw [sm_a hwo o7 s9 TMa_16 (by decide)])) (fun j => (by rw [sm_a o7 o16 s18 TMa_18 (by decide)]; rw [sm_a hwo o7 s9 TMa_18 (by decide)])) (fun j => (by rw [sm_a o7 o16 s18 TMa_21 (by decide)]; rw [sm_a hwo o7 s9 TMa_21 (by decide)]))), Or.inl (by omega)⟩
  · have c5 : (vi ws 0 8 : Int) = 3 := c5
    refine hr_aln C 1 dX12_readLine_13 rfl rfl rfl ?_
    refine hr_cV (As := []) (rest := []) C (h_isFull h r hr0) ⟨by decide, by decide⟩ iV_X12_isFull g_X12_280 TM0 hr0 dX12_readLine_14 rfl rfl (Nat.le_of_ble_eq_true rfl) rfl ⟨rfl, trivial⟩ (fun w39 rv o40 q41 => ?_)
    obtain ⟨rfl, zf, rfl, hzf, hfu⟩ := q41
    rw [hT] at hfu
    refine hr_norm (st' := [zv (zf)]) rfl ?_
    refine hr_if C 24 dX12_readLine_17 (by decide) ⟨by omega, by omega⟩ rfl (fun c42 => ?_) (fun c42 => ?_)
    · have c42 : (zf : Int) = 0 := c42
      refine hr_aln C 1 dX12_readLine_24 rfl rfl rfl ?_
      refine hr_cV (As := []) (rest := []) C (hM_fx (km293 h)) ⟨by decide, by decide⟩ iV_X12_isGood g_X12_241 TM0 hr0 dX12_readLine_25 rfl rfl (Nat.le_of_ble_eq_true rfl) rfl ⟨(ty_cons (ok_r hr0 (by decide) (by decide)) ty_nil), ⟨_, rfl⟩⟩ (fun w43 rv o44 q45 => ?_)
      obtain ⟨s46, po, hpo47, hrv48, hty49, rt, hfs50⟩ := q45
      replace s46 : fx_sm (gsM, TM, cy, fun _ => True) [] ws w43 := s46
      simp only [km293_c, List.mem_cons, List.not_mem_nil, or_false] at hpo47
      rcases hpo47 with rfl | rfl
      · obtain ⟨v51, rfl, hv52⟩ := hrv48
        obtain ⟨z53, rfl, b54, b55, b56⟩ := ok_iz hv52
        simp only [rg] at b56
        obtain rfl : z53 = 1 := by omega
        have hf57 := fs_t hnd o44 hr0 rfl hfs50
        refine hr_norm (st' := [zv (1)]) rfl ?_
        refine hr_if C 32 dX12_readLine_28 (by decide) ⟨by omega, by omega⟩ rfl (fun c58 => ?_) (fun c58 => absurd (show (1 : Int) = 0 from c58) (by omega))
        have c58 : ¬ (1 : Int) = 0 := c58
        have : vi w43 0 4 = vi ws 0 4 := (by rw [sm_f hwo o44 s46 (by decide)])
        refine hr_pick (lv' := [(0, .ref r), (1, .long x1)]) [1, 0] rfl ?_
        have hsm : fx_sm (gsM, TM, cy, fun _ => True) [(12, 4), (12, 5)] ws w43 := (fx_sm_tr fx_sm_refl s46 (by decide))
        have fu : ((x1.toInt = 2003792484 ∧ ¬ vi ws 3 R = 9) ∨ (x1.toInt = 108187867505765 ∧ ¬ vi ws 4 R = 20) ∨ (x1.toInt = 7499639 ∧ vi ws 17 R = 0) ∨ (x1.toInt = 1936484720 ∧ ¬ vi ws 5 R = 5) ∨ (x1.toInt = 1835627379 ∧ vi ws 18 R = 0) ∨ (x1.toInt = 1685217655 ∧ vi ws 19 R = 0)) := by omega
        rcases fu with ⟨fx, fg⟩ | ⟨fx, fg⟩ | ⟨fx, fg⟩ | ⟨fx, fg⟩ | ⟨fx, fg⟩ | ⟨fx, fg⟩
        · exact k_word _ _ o44 hsm fx fg
        · exact k_beside _ _ o44 hsm fx fg
        · exact k_row _ _ o44 hsm fx fg
        · exact k_slip _ _ o44 hsm fx fg
        · exact k_miss _ _ o44 hsm fx fg
        · exact k_draw _ _ o44 hsm fx fg
      · obtain ⟨v59, rfl, hv60⟩ := hrv48
        obtain ⟨z61, rfl, b62, b63, b64⟩ := ok_iz hv60
        simp only [rg] at b64
        obtain rfl : z61 = 0 := by omega
        have hf65 := fs_t hnd o44 hr0 rfl hfs50
        refine hr_norm (st' := [zv (0)]) rfl ?_
        refine hr_if C 32 dX12_readLine_28 (by decide) ⟨by omega, by omega⟩ rfl (fun c66 => absurd (show ¬ (0 : Int) = 0 from c66) (by omega)) (fun c66 => ?_)
        have c66 : (0 : Int) = 0 := c66
        have : vi w43 0 4 = vi ws 0 4 := (by rw [sm_f hwo o44 s46 (by decide)])
        exact hr_vret C hlocks hr dX12_readLine_31 ⟨(fx_sm_tr fx_sm_refl s46 (by decide)), rfl, (by rw [sm_f hwo o44 s46 (by decide)]; omega), (TI_x (d := 0) ti (by rw [sm_f hwo o44 s46 (by decide)]) (by rw [sm_f hwo o44 s46 (by decide)]) (by rw [sm_f hwo o44 s46 (by decide)]) (by omega) (fun j => by rw [Int.add_zero, ite_self]; exact (by rw [sm_a hwo o44 s46 TMa_3 (by decide)])) (by rw [show vi w43 4 R = vi ws 4 R from (by rw [sm_a hwo o44 s46 TMa_4 (by decide)])]; exact hT4) (fun j => (by rw [sm_a hwo o44 s46 TMa_5 (by decide)])) (fun j => (by rw [sm_a hwo o44 s46 TMa_13 (by decide)])) (fun j => (by rw [sm_a hwo o44 s46 TMa_14 (by decide)])) (fun j => (by rw [sm_a hwo o44 s46 TMa_15 (by decide)])) (fun j => (by rw [sm_a hwo o44 s46 TMa_16 (by decide)])) (fun j => (by rw [sm_a hwo o44 s46 TMa_18 (by decide)])) (fun j => (by rw [sm_a hwo o44 s46 TMa_21 (by decide)]))), Or.inl (by omega)⟩
    · have c42 : ¬ (zf : Int) = 0 := c42
      refine hr_aln C 1 dX12_readLine_20 rfl rfl rfl ?_
      refine hr_cV (As := []) (rest := []) C (hM_fx (km295 h)) ⟨by decide, by decide⟩ iV_X12_misplaced g_X12_248 TM0 hr0 dX12_readLine_21 rfl rfl (Nat.le_of_ble_eq_true rfl) rfl ⟨(ty_cons (ok_r hr0 (by decide) (by decide)) ty_nil), ⟨_, rfl⟩⟩ (fun w67 rv o68 q69 => ?_)
      obtain ⟨s70, po, hpo71, hrv72, hty73, rt, hfs74⟩ := q69
      replace s70 : fx_sm (gsM, TM, cy, fun _ => True) [(12, 4), (12, 5)] ws w67 := s70
      simp only [km295_c, List.mem_cons, List.not_mem_nil, or_false] at hpo71
      subst hpo71
      obtain rfl := hrv72
      have hf75 := fs_t hnd o68 hr0 rfl hfs74
      refine hr_norm (st' := []) rfl ?_
      refine hr_aln C 1 dX12_readLine_24 rfl rfl rfl ?_
      refine hr_cV (As := []) (rest := []) C (hM_fx (km293 h)) ⟨by decide, by decide⟩ iV_X12_isGood g_X12_241 TM0 hr0 dX12_readLine_25 rfl rfl (Nat.le_of_ble_eq_true rfl) rfl ⟨(ty_cons (ok_r hr0 (by decide) (by decide)) ty_nil), ⟨_, rfl⟩⟩ (fun w76 rv o77 q78 => ?_)
      obtain ⟨s79, po, hpo80, hrv81, hty82, rt, hfs83⟩ := q78
      replace s79 : fx_sm (gsM, TM, cy, fun _ => True) [] w67 w76 := s79
      simp only [km293_c, List.mem_cons, List.not_mem_nil, or_false] at hpo80
      rcases hpo80 with rfl | rfl
      · obtain ⟨v84, rfl, hv85⟩ := hrv81
        obtain ⟨z86, rfl, b87, b88, b89⟩ := ok_iz hv85
        simp only [rg] at b89
        obtain rfl : z86 = 1 := by omega
        have hf90 := fs_t hnd o77 hr0 rfl hfs83
        refine hr_norm (st' := [zv (1)]) rfl ?_
        refine hr_if C 32 dX12_readLine_28 (by decide) ⟨by omega, by omega⟩ rfl (fun c91 => ?_) (fun c91 => absurd (show (1 : Int) = 0 from c91) (by omega))
        have c91 : ¬ (1 : Int) = 0 := c91
        have : vi w76 0 4 = vi w67 0 4 := (by rw [sm_f o68 o77 s79 (by decide)])
        have : vi w67 0 4 = vi w67 0 4 := rfl
        refine hr_pick (lv' := [(0, .ref r), (1, .long x1)]) [1, 0] rfl ?_
        have hsm : fx_sm (gsM, TM, cy, fun _ => True) [(12, 4), (12, 5)] ws w76 := (fx_sm_tr (fx_sm_tr fx_sm_refl s70 (by decide)) s79 (by decide))
        have fu : ((x1.toInt = 2003792484 ∧ ¬ vi ws 3 R = 9) ∨ (x1.toInt = 108187867505765 ∧ ¬ vi ws 4 R = 20) ∨ (x1.toInt = 7499639 ∧ vi ws 17 R = 0) ∨ (x1.toInt = 1936484720 ∧ ¬ vi ws 5 R = 5) ∨ (x1.toInt = 1835627379 ∧ vi ws 18 R = 0) ∨ (x1.toInt = 1685217655 ∧ vi ws 19 R = 0)) := by omega
        rcases fu with ⟨fx, fg⟩ | ⟨fx, fg⟩ | ⟨fx, fg⟩ | ⟨fx, fg⟩ | ⟨fx, fg⟩ | ⟨fx, fg⟩
        · exact k_word _ _ o77 hsm fx fg
        · exact k_beside _ _ o77 hsm fx fg
        · exact k_row _ _ o77 hsm fx fg
        · exact k_slip _ _ o77 hsm fx fg
        · exact k_miss _ _ o77 hsm fx fg
        · exact k_draw _ _ o77 hsm fx fg
      · obtain ⟨v92, rfl, hv93⟩ := hrv81
        obtain ⟨z94, rfl, b95, b96, b97⟩ := ok_iz hv93
        simp only [rg] at b97
        obtain rfl : z94 = 0 := by omega
        have hf98 := fs_t hnd o77 hr0 rfl hfs83
        refine hr_norm (st' := [zv (0)]) rfl ?_
        refine hr_if C 32 dX12_readLine_28 (by decide) ⟨by omega, by omega⟩ rfl (fun c99 => absurd (show ¬ (0 : Int) = 0 from c99) (by omega)) (fun c99 => ?_)
        have c99 : (0 : Int) = 0 := c99
        have : vi w76 0 4 = vi w67 0 4 := (by rw [sm_f o68 o77 s79 (by decide)])
        have : vi w67 0 4 = vi w67 0 4 := rfl
        exact hr_vret C hlocks hr dX12_readLine_31 ⟨(fx_sm_tr (fx_sm_tr fx_sm_refl s70 (by decide)) s79 (by decide)), rfl, (by rw [sm_f o68 o77 s79 (by decide)]; rw [sm_f hwo o68 s70 (by decide)]; omega), (TI_x (d := 0) ti (by rw [sm_f o68 o77 s79 (by decide)]; rw [sm_f hwo o68 s70 (by decide)]) (by rw [sm_f o68 o77 s79 (by decide)]; rw [sm_f hwo o68 s70 (by decide)]) (by rw [sm_f o68 o77 s79 (by decide)]; rw [sm_f hwo o68 s70 (by decide)]) (by omega) (fun j => by rw [Int.add_zero, ite_self]; exact (by rw [sm_a o68 o77 s79 TMa_3 (by decide)]; rw [sm_a hwo o68 s70 TMa_3 (by decide)])) (by rw [show vi w76 4 R = vi ws 4 R from (by rw [sm_a o68 o77 s79 TMa_4 (by decide)]; rw [sm_a hwo o68 s70 TMa_4 (by decide)])]; exact hT4) (fun j => (by rw [sm_a o68 o77 s79 TMa_5 (by decide)]; rw [sm_a hwo o68 s70 TMa_5 (by decide)])) (fun j => (by rw [sm_a o68 o77 s79 TMa_13 (by decide)]; rw [sm_a hwo o68 s70 TMa_13 (by decide)])) (fun j => (by rw [sm_a o68 o77 s79 TMa_14 (by decide)]; rw [sm_a hwo o68 s70 TMa_14 (by decide)])) (fun j => (by rw [sm_a o68 o77 s79 TMa_15 (by decide)]; rw [sm_a hwo o68 s70 TMa_15 (by decide)])) (fun j => (by rw [sm_a o68 o77 s79 TMa_16 (by decide)]; rw [sm_a hwo o68 s70 TMa_16 (by decide)])) (fun j => (by rw [sm_a o68 o77 s79 TMa_18 (by decide)]; rw [sm_a hwo o68 s70 TMa_18 (by decide)])) (fun j => (by rw [sm_a o68 o77 s79 TMa_21 (by decide)]; rw [sm_a hwo o68 s70 TMa_21 (by decide)]))), Or.inl (by omega)⟩
