theorem m_719 : Cond.fieldLink RX12 311 "LostWordsModel" "unitsInRule" "I" ∈ wsL_law := in_wsL_law_r30 _ (List.mem_of_getElem? (i := 23) rfl)
theorem m_725 : Cond.fieldLink RX12 320 "LostWordsModel" "within" "I" ∈ wsL_law := in_wsL_law_r31 _ (List.mem_of_getElem? (i := 5) rfl)
theorem m_726 : Cond.methodLink RX12 323 yX12_pushE ∈ wsL_law := in_wsL_law_r31 _ (List.mem_of_getElem? (i := 6) rfl)
theorem m_727 : Cond.instanceMethod yX12_pushE ∈ wsL_law := in_wsL_law_r31 _ (List.mem_of_getElem? (i := 7) rfl)
theorem m_728 : Cond.selects RX12 yX12_pushE yX12_pushE ∈ wsL_law := in_wsL_law_r31 _ (List.mem_of_getElem? (i := 8) rfl)
theorem m_729 : Cond.code yX12_pushE cX12_pushE 3 none ∈ wsL_law := in_wsL_law_r31 _ (List.mem_of_getElem? (i := 9) rfl)
theorem m_734 : Cond.methodLink RX12 332 yX12_wordHere ∈ wsL_law := in_wsL_law_r31 _ (List.mem_of_getElem? (i := 14) rfl)
theorem m_735 : Cond.instanceMethod yX12_wordHere ∈ wsL_law := in_wsL_law_r31 _ (List.mem_of_getElem? (i := 15) rfl)
theorem m_736 : Cond.selects RX12 yX12_wordHere yX12_wordHere ∈ wsL_law := in_wsL_law_r31 _ (List.mem_of_getElem? (i := 16) rfl)
theorem m_737 : Cond.code yX12_wordHere cX12_wordHere 1 (some .int) ∈ wsL_law := in_wsL_law_r31 _ (List.mem_of_getElem? (i := 17) rfl)
theorem m_738 : Cond.methodLink RX12 335 yX12_emit ∈ wsL_law := in_wsL_law_r31 _ (List.mem_of_getElem? (i := 18) rfl)
theorem m_739 : Cond.instanceMethod yX12_emit ∈ wsL_law := in_wsL_law_r31 _ (List.mem_of_getElem? (i := 19) rfl)
theorem m_740 : Cond.selects RX12 yX12_emit yX12_emit ∈ wsL_law := in_wsL_law_r31 _ (List.mem_of_getElem? (i := 20) rfl)
theorem m_741 : Cond.code yX12_emit cX12_emit 3 none ∈ wsL_law := in_wsL_law_r31 _ (List.mem_of_getElem? (i := 21) rfl)
theorem fl_X12_311 : fx_gl wsL_law nestW classes RX12 (311, 12, 39) := ⟨RX12, TX12, 74, rfl, by decide, inlX12, Or.inl m_719⟩
theorem pl_X12_311 : fx_pl wsL_law nestW classes RX12 (311, 12, 39, 0) := ⟨RX12, TX12, 74, tyX12, tyX12 39, rfl, by decide, inlX12, tyX12_ok, nmX12, rfl, tyX12_ok 39 (by decide), rfl, Or.inl m_719⟩
theorem fl_X12_320 : fx_gl wsL_law nestW classes RX12 (320, 12, 37) := ⟨RX12, TX12, 74, rfl, by decide, inlX12, Or.inl m_725⟩
theorem pl_X12_320 : fx_pl wsL_law nestW classes RX12 (320, 12, 37, 0) := ⟨RX12, TX12, 74, tyX12, tyX12 37, rfl, by decide, inlX12, tyX12_ok, nmX12, rfl, tyX12_ok 37 (by decide), rfl, Or.inl m_725⟩
theorem iV_X12_pushE : yX12_pushE.cls = RX12 ∧ yX12_pushE.cls ≠ "java/lang/invoke/MethodHandle" ∧ yX12_pushE.cls ≠ "java/lang/invoke/VarHandle" ∧ (parseMethodDescriptor yX12_pushE.desc).map (fun d => d.parameters.length) = some 2 := by decide +kernel
theorem iV_X12_emit : yX12_emit.cls = RX12 ∧ yX12_emit.cls ≠ "java/lang/invoke/MethodHandle" ∧ yX12_emit.cls ≠ "java/lang/invoke/VarHandle" ∧ (parseMethodDescriptor yX12_emit.desc).map (fun d => d.parameters.length) = some 2 := by decide +kernel
theorem iV_X12_wordHere : yX12_wordHere.cls = RX12 ∧ yX12_wordHere.cls ≠ "java/lang/invoke/MethodHandle" ∧ yX12_wordHere.cls ≠ "java/lang/invoke/VarHandle" ∧ (parseMethodDescriptor yX12_wordHere.desc).map (fun d => d.parameters.length) = some 0 := by decide +kernel
theorem g_X12_323 : GoodIn wsL_law (wsV RX12 323 RX12 yX12_pushE (.code yX12_pushE cX12_pushE 3 none :: wsL_law)) := gdV m_726 m_727 m_728 m_5 m_729
theorem g_X12_335 : GoodIn wsL_law (wsV RX12 335 RX12 yX12_emit (.code yX12_emit cX12_emit 3 none :: wsL_law)) := gdV m_738 m_739 m_740 m_5 m_741
theorem g_X12_332 : GoodIn wsL_law (wsV RX12 332 RX12 yX12_wordHere (.code yX12_wordHere cX12_wordHere 1 (some .int) :: wsL_law)) := gdV m_734 m_735 m_736 m_5 m_737
theorem dX12_unit_147 : decode cX12_unit 147 = .ok (.aload_n 0, 1) := by decide +kernel
theorem dX12_unit_148 : decode cX12_unit 148 = .ok (.invokevirtual 241, 3) := by decide +kernel
theorem dX12_unit_151 : decode cX12_unit 151 = .ok (.ifCond .ne 5, 3) := by decide +kernel
theorem dX12_unit_156 : decode cX12_unit 156 = .ok (.aload_n 0, 1) := by decide +kernel
theorem dX12_unit_157 : decode cX12_unit 157 = .ok (.getfield 30, 3) := by decide +kernel
theorem dX12_unit_160 : decode cX12_unit 160 = .ok (.aload_n 0, 1) := by decide +kernel
theorem dX12_unit_161 : decode cX12_unit 161 = .ok (.getfield 265, 3) := by decide +kernel
theorem dX12_unit_164 : decode cX12_unit 164 = .ok (.dup2, 1) := by decide +kernel
theorem dX12_unit_165 : decode cX12_unit 165 = .ok (.iaload, 1) := by decide +kernel
theorem dX12_unit_166 : decode cX12_unit 166 = .ok (.iload_n 2, 1) := by decide +kernel
theorem dX12_unit_167 : decode cX12_unit 167 = .ok (.ifCond .eq 7, 3) := by decide +kernel
theorem dX12_unit_170 : decode cX12_unit 170 = .ok (.iconst 0, 1) := by decide +kernel
theorem dX12_unit_171 : decode cX12_unit 171 = .ok (.goto 4, 3) := by decide +kernel
theorem dX12_unit_175 : decode cX12_unit 175 = .ok (.iadd, 1) := by decide +kernel
theorem dX12_unit_176 : decode cX12_unit 176 = .ok (.iastore, 1) := by decide +kernel
theorem dX12_unit_177 : decode cX12_unit 177 = .ok (.aload_n 0, 1) := by decide +kernel
theorem dX12_unit_178 : decode cX12_unit 178 = .ok (.dup, 1) := by decide +kernel
theorem dX12_unit_179 : decode cX12_unit 179 = .ok (.getfield 311, 3) := by decide +kernel
theorem dX12_unit_182 : decode cX12_unit 182 = .ok (.iload_n 2, 1) := by decide +kernel
theorem dX12_unit_183 : decode cX12_unit 183 = .ok (.ifCond .eq 7, 3) := by decide +kernel
theorem dX12_unit_186 : decode cX12_unit 186 = .ok (.iconst 0, 1) := by decide +kernel
theorem dX12_unit_187 : decode cX12_unit 187 = .ok (.goto 4, 3) := by decide +kernel
theorem dX12_unit_191 : decode cX12_unit 191 = .ok (.iadd, 1) := by decide +kernel
theorem dX12_unit_192 : decode cX12_unit 192 = .ok (.putfield 311, 3) := by decide +kernel
theorem dX12_unit_195 : decode cX12_unit 195 = .ok (.iload 4, 2) := by decide +kernel
theorem dX12_unit_197 : decode cX12_unit 197 = .ok (.ifCond .ne 10, 3) := by decide +kernel
theorem dX12_unit_207 : decode cX12_unit 207 = .ok (.iconst 0, 1) := by decide +kernel
theorem dX12_unit_208 : decode cX12_unit 208 = .ok (.istore 6, 2) := by decide +kernel
theorem dX12_unit_210 : decode cX12_unit 210 = .ok (.aload_n 0, 1) := by decide +kernel
theorem dX12_unit_211 : decode cX12_unit 211 = .ok (.invokevirtual 245, 3) := by decide +kernel
theorem dX12_unit_214 : decode cX12_unit 214 = .ok (.iload_n 2, 1) := by decide +kernel
theorem dX12_unit_215 : decode cX12_unit 215 = .ok (.ifCond .ne 7, 3) := by decide +kernel
theorem dX12_unit_222 : decode cX12_unit 222 = .ok (.aload_n 0, 1) := by decide +kernel
theorem dX12_unit_223 : decode cX12_unit 223 = .ok (.iload_n 2, 1) := by decide +kernel
theorem dX12_unit_224 : decode cX12_unit 224 = .ok (.ifCond .eq 7, 3) := by decide +kernel
theorem dX12_unit_227 : decode cX12_unit 227 = .ok (.iconst 3, 1) := by decide +kernel
theorem dX12_unit_228 : decode cX12_unit 228 = .ok (.goto 5, 3) := by decide +kernel
theorem dX12_unit_233 : decode cX12_unit 233 = .ok (.bipush 126, 2) := by decide +kernel
theorem dX12_unit_235 : decode cX12_unit 235 = .ok (.invokevirtual 323, 3) := by decide +kernel
theorem dX12_unit_238 : decode cX12_unit 238 = .ok (.aload_n 0, 1) := by decide +kernel
theorem dX12_unit_239 : decode cX12_unit 239 = .ok (.dup, 1) := by decide +kernel
theorem dX12_unit_240 : decode cX12_unit 240 = .ok (.getfield 320, 3) := by decide +kernel
theorem dX12_unit_243 : decode cX12_unit 243 = .ok (.iconst 1, 1) := by decide +kernel
theorem dX12_unit_244 : decode cX12_unit 244 = .ok (.iadd, 1) := by decide +kernel
theorem dX12_unit_245 : decode cX12_unit 245 = .ok (.putfield 320, 3) := by decide +kernel
theorem dX12_unit_248 : decode cX12_unit 248 = .ok (.iconst 1, 1) := by decide +kernel
theorem dX12_unit_249 : decode cX12_unit 249 = .ok (.ireturn, 1) := by decide +kernel
theorem dX12_unit_200 : decode cX12_unit 200 = .ok (.aload_n 0, 1) := by decide +kernel
theorem dX12_unit_201 : decode cX12_unit 201 = .ok (.getfield 231, 3) := by decide +kernel
theorem dX12_unit_204 : decode cX12_unit 204 = .ok (.goto 4, 3) := by decide +kernel
theorem dX12_unit_154 : decode cX12_unit 154 = .ok (.iconst 1, 1) := by decide +kernel
theorem dX12_unit_155 : decode cX12_unit 155 = .ok (.ireturn, 1) := by decide +kernel
theorem dX12_unit_174 : decode cX12_unit 174 = .ok (.iconst 1, 1) := by decide +kernel
theorem dX12_unit_190 : decode cX12_unit 190 = .ok (.iconst 1, 1) := by decide +kernel
theorem dX12_unit_218 : decode cX12_unit 218 = .ok (.iload_n 3, 1) := by decide +kernel
theorem dX12_unit_219 : decode cX12_unit 219 = .ok (.ifCond .eq 31, 3) := by decide +kernel
theorem dX12_unit_231 : decode cX12_unit 231 = .ok (.bipush 7, 2) := by decide +kernel
theorem dX12_unit_250 : decode cX12_unit 250 = .ok (.aload_n 0, 1) := by decide +kernel
theorem dX12_unit_251 : decode cX12_unit 251 = .ok (.iload 4, 2) := by decide +kernel
theorem dX12_unit_253 : decode cX12_unit 253 = .ok (.ifCond .ne 8, 3) := by decide +kernel
theorem dX12_unit_261 : decode cX12_unit 261 = .ok (.iload 4, 2) := by decide +kernel
theorem dX12_unit_263 : decode cX12_unit 263 = .ok (.iload 6, 2) := by decide +kernel
theorem dX12_unit_265 : decode cX12_unit 265 = .ok (.invokevirtual 335, 3) := by decide +kernel
theorem dX12_unit_268 : decode cX12_unit 268 = .ok (.iconst 0, 1) := by decide +kernel
theorem dX12_unit_269 : decode cX12_unit 269 = .ok (.ireturn, 1) := by decide +kernel
theorem dX12_unit_256 : decode cX12_unit 256 = .ok (.bipush 110, 2) := by decide +kernel
theorem dX12_unit_258 : decode cX12_unit 258 = .ok (.goto 5, 3) := by decide +kernel
theorem dX12_unit_100 : decode cX12_unit 100 = .ok (.iload_n 2, 1) := by decide +kernel
theorem dX12_unit_101 : decode cX12_unit 101 = .ok (.ifCond .ne 25, 3) := by decide +kernel
theorem dX12_unit_126 : decode cX12_unit 126 = .ok (.iload_n 2, 1) := by decide +kernel
theorem dX12_unit_127 : decode cX12_unit 127 = .ok (.ifCond .ne 7, 3) := by decide +kernel
theorem dX12_unit_134 : decode cX12_unit 134 = .ok (.aload_n 0, 1) := by decide +kernel
theorem dX12_unit_135 : decode cX12_unit 135 = .ok (.getfield 320, 3) := by decide +kernel
theorem dX12_unit_138 : decode cX12_unit 138 = .ok (.bipush 7, 2) := by decide +kernel
theorem dX12_unit_140 : decode cX12_unit 140 = .ok (.if_icmp .ne 7, 3) := by decide +kernel
theorem dX12_unit_143 : decode cX12_unit 143 = .ok (.aload_n 0, 1) := by decide +kernel
theorem dX12_unit_144 : decode cX12_unit 144 = .ok (.invokevirtual 248, 3) := by decide +kernel
theorem dX12_unit_130 : decode cX12_unit 130 = .ok (.iload_n 3, 1) := by decide +kernel
theorem dX12_unit_131 : decode cX12_unit 131 = .ok (.ifCond .eq 16, 3) := by decide +kernel
theorem dX12_unit_104 : decode cX12_unit 104 = .ok (.iload 4, 2) := by decide +kernel
theorem dX12_unit_106 : decode cX12_unit 106 = .ok (.ifCond .ne 15, 3) := by decide +kernel
theorem dX12_unit_121 : decode cX12_unit 121 = .ok (.iload 5, 2) := by decide +kernel
theorem dX12_unit_123 : decode cX12_unit 123 = .ok (.ifCond .ne 20, 3) := by decide +kernel
theorem dX12_unit_109 : decode cX12_unit 109 = .ok (.aload_n 0, 1) := by decide +kernel
theorem dX12_unit_110 : decode cX12_unit 110 = .ok (.getfield 213, 3) := by decide +kernel
theorem dX12_unit_113 : decode cX12_unit 113 = .ok (.iconst 4, 1) := by decide +kernel
theorem dX12_unit_114 : decode cX12_unit 114 = .ok (.if_icmp .eq 7, 3) := by decide +kernel
theorem dX12_unit_117 : decode cX12_unit 117 = .ok (.iload_n 3, 1) := by decide +kernel
theorem dX12_unit_118 : decode cX12_unit 118 = .ok (.ifCond .eq 25, 3) := by decide +kernel
theorem dX12_unit_70 : decode cX12_unit 70 = .ok (.aload_n 0, 1) := by decide +kernel
theorem dX12_unit_71 : decode cX12_unit 71 = .ok (.getfield 30, 3) := by decide +kernel
theorem dX12_unit_74 : decode cX12_unit 74 = .ok (.aload_n 0, 1) := by decide +kernel
theorem dX12_unit_75 : decode cX12_unit 75 = .ok (.getfield 265, 3) := by decide +kernel
theorem dX12_unit_78 : decode cX12_unit 78 = .ok (.iaload, 1) := by decide +kernel
theorem dX12_unit_79 : decode cX12_unit 79 = .ok (.bipush 60, 2) := by decide +kernel
theorem dX12_unit_81 : decode cX12_unit 81 = .ok (.if_icmp .eq 12, 3) := by decide +kernel
theorem dX12_unit_93 : decode cX12_unit 93 = .ok (.iconst 1, 1) := by decide +kernel
theorem dX12_unit_94 : decode cX12_unit 94 = .ok (.goto 4, 3) := by decide +kernel
theorem dX12_unit_98 : decode cX12_unit 98 = .ok (.istore 5, 2) := by decide +kernel
theorem dX12_unit_84 : decode cX12_unit 84 = .ok (.aload_n 0, 1) := by decide +kernel
theorem dX12_unit_85 : decode cX12_unit 85 = .ok (.getfield 311, 3) := by decide +kernel
theorem dX12_unit_88 : decode cX12_unit 88 = .ok (.bipush 30, 2) := by decide +kernel
theorem dX12_unit_90 : decode cX12_unit 90 = .ok (.if_icmp .ne 7, 3) := by decide +kernel
theorem dX12_unit_97 : decode cX12_unit 97 = .ok (.iconst 0, 1) := by decide +kernel
theorem dX12_unit_57 : decode cX12_unit 57 = .ok (.aload_n 0, 1) := by decide +kernel
theorem dX12_unit_58 : decode cX12_unit 58 = .ok (.bipush 40, 2) := by decide +kernel
theorem dX12_unit_60 : decode cX12_unit 60 = .ok (.invokevirtual 262, 3) := by decide +kernel
theorem dX12_unit_63 : decode cX12_unit 63 = .ok (.istore_n 3, 1) := by decide +kernel
theorem dX12_unit_64 : decode cX12_unit 64 = .ok (.aload_n 0, 1) := by decide +kernel
theorem dX12_unit_65 : decode cX12_unit 65 = .ok (.invokevirtual 332, 3) := by decide +kernel
theorem dX12_unit_68 : decode cX12_unit 68 = .ok (.istore 4, 2) := by decide +kernel
theorem dX12_unit_37 : decode cX12_unit 37 = .ok (.iload_n 1, 1) := by decide +kernel
theorem dX12_unit_38 : decode cX12_unit 38 = .ok (.ifCond .eq 17, 3) := by decide +kernel
theorem dX12_unit_55 : decode cX12_unit 55 = .ok (.iconst 0, 1) := by decide +kernel
theorem dX12_unit_56 : decode cX12_unit 56 = .ok (.istore_n 2, 1) := by decide +kernel
theorem dX12_unit_41 : decode cX12_unit 41 = .ok (.aload_n 0, 1) := by decide +kernel
theorem dX12_unit_42 : decode cX12_unit 42 = .ok (.ldc2_w 201, 3) := by decide +kernel
theorem dX12_unit_45 : decode cX12_unit 45 = .ok (.invokevirtual 251, 3) := by decide +kernel
theorem dX12_unit_48 : decode cX12_unit 48 = .ok (.ifCond .eq 7, 3) := by decide +kernel
theorem dX12_unit_51 : decode cX12_unit 51 = .ok (.iconst 1, 1) := by decide +kernel
theorem dX12_unit_52 : decode cX12_unit 52 = .ok (.goto 4, 3) := by decide +kernel
theorem dX12_unit_0 : decode cX12_unit 0 = .ok (.aload_n 0, 1) := by decide +kernel
theorem dX12_unit_1 : decode cX12_unit 1 = .ok (.getfield 83, 3) := by decide +kernel
theorem dX12_unit_4 : decode cX12_unit 4 = .ok (.aload_n 0, 1) := by decide +kernel
theorem dX12_unit_5 : decode cX12_unit 5 = .ok (.getfield 317, 3) := by decide +kernel
theorem dX12_unit_8 : decode cX12_unit 8 = .ok (.iconst 1, 1) := by decide +kernel
theorem dX12_unit_9 : decode cX12_unit 9 = .ok (.isub, 1) := by decide +kernel
theorem dX12_unit_10 : decode cX12_unit 10 = .ok (.iaload, 1) := by decide +kernel
theorem dX12_unit_11 : decode cX12_unit 11 = .ok (.iconst 3, 1) := by decide +kernel
theorem dX12_unit_12 : decode cX12_unit 12 = .ok (.if_icmp .le 19, 3) := by decide +kernel
theorem dX12_unit_31 : decode cX12_unit 31 = .ok (.iconst 1, 1) := by decide +kernel
theorem dX12_unit_32 : decode cX12_unit 32 = .ok (.goto 4, 3) := by decide +kernel
theorem dX12_unit_36 : decode cX12_unit 36 = .ok (.istore_n 1, 1) := by decide +kernel
theorem dX12_unit_15 : decode cX12_unit 15 = .ok (.aload_n 0, 1) := by decide +kernel
theorem dX12_unit_16 : decode cX12_unit 16 = .ok (.getfield 83, 3) := by decide +kernel
theorem dX12_unit_19 : decode cX12_unit 19 = .ok (.aload_n 0, 1) := by decide +kernel
theorem dX12_unit_20 : decode cX12_unit 20 = .ok (.getfield 317, 3) := by decide +kernel
theorem dX12_unit_23 : decode cX12_unit 23 = .ok (.iconst 1, 1) := by decide +kernel
theorem dX12_unit_24 : decode cX12_unit 24 = .ok (.isub, 1) := by decide +kernel
theorem dX12_unit_25 : decode cX12_unit 25 = .ok (.iaload, 1) := by decide +kernel
theorem dX12_unit_26 : decode cX12_unit 26 = .ok (.bipush 7, 2) := by decide +kernel
theorem dX12_unit_28 : decode cX12_unit 28 = .ok (.if_icmp .lt 7, 3) := by decide +kernel
theorem dX12_unit_35 : decode cX12_unit 35 = .ok (.iconst 0, 1) := by decide +kernel
def FRc (ws w : va_W) (f : Nat) : Prop := ∀ j : Nat, (j < f ∨ f + 560 ≤ j) → vi w 21 j = vi ws 21 j
set_option maxRecDepth 100000 in
set_option maxHeartbeats 4000000 in
theorem h_unit {l : Launch} {E : (Nat → Prop) → State → Prop} {ad : List Nat} {D : va_G} {cy : Nat → ClassId} (h : fx_env E D classes (tys cy) nestW) (r f : Nat) (hr0 : ad[0]? = some r) (hf : f ≤ 560) : hM l yX12_unit cX12_unit 7 (some .boolean) ({ frames := 2, cells := 0, slots := 0, locals := 44 }) E ad D cy (fun av ws => av = [.ref r] ∧ EI ws f 0 ∧ vi ws 0 7 ≤ 1600) (fun _ ws rv ws1 => fx_sm (gsM, TM, cy, fun _ => True) [(12, 4), (12, 5), (12, 6), (12, 7), (12, 8), (12, 9), (12, 10), (12, 36), (12, 37), (12, 38), (12, 39), (1000, 6), (1000, 21), (1000, 22), (1000, 23), (1000, 24)] ws ws1 ∧ (∃ z, rv = some (zv z) ∧ (z = 0 ∨ z = 1) ∧ EI ws1 f (1 - z) ∧ (1 ≤ vi ws1 0 4 ∨ (z = 1 ∧ vi ws1 0 39 = vi ws 0 39 ∧ vi ws1 0 37 = vi ws 0 37 + 1) ∨ vi ws1 0 39 = vi ws 0 39 + 1)) ∧ vi ws1 0 7 ≤ 1600 ∧ FRc ws ws1 f) := by
  refine hM_of h (by decide) ?_
  intro av ws p e s m below meth c hwo hnd hpre hlocks hr C
  obtain ⟨rfl, hpre⟩ := hpre
  refine ⟨Nat.le_of_ble_eq_true rfl, ?_⟩
  refine hr_pick (lv' := [(0, .ref r)]) [0] rfl ?_
  obtain ⟨ei, he⟩ := hpre
  have k147_1 : ∀ (w : va_W) (c0 : Int), fx_wo (gsM, TM, cy, fun _ => True) ad w → fx_sm (gsM, TM, cy, fun _ => True) [(12, 4), (12, 5), (12, 6), (12, 7), (12, 8), (12, 9), (12, 10), (12, 36), (12, 37), (12, 38), (12, 39), (1000, 6), (1000, 21), (1000, 22), (1000, 23), (1000, 24)] ws w → EI w f 0 → vi w 0 7 ≤ 1600 → (vi w 0 39 = vi ws 0 39 ∧ vi w 0 37 = vi ws 0 37 ∧ ∀ j, vi w 21 j = vi ws 21 j) → (c0 = 0 ∨ (97 ≤ c0 ∧ c0 ≤ 122)) → (1 ≤ vi w 0 4 ∨ (¬ vi w 0 37 = 7)) → HW l E ad D cy (va_A ws s.heap.size) s.heap p e ({ frames := 2, cells := 0, slots := 0, locals := 44 }) s m ([.ref r]).toArray below meth c (MQ below (hQ ad D cy (fun _ ws rv ws1 => fx_sm (gsM, TM, cy, fun _ => True) [(12, 4), (12, 5), (12, 6), (12, 7), (12, 8), (12, 9), (12, 10), (12, 36), (12, 37), (12, 38), (12, 39), (1000, 6), (1000, 21), (1000, 22), (1000, 23), (1000, 24)] ws ws1 ∧ (∃ z, rv = some (zv z) ∧ (z = 0 ∨ z = 1) ∧ EI ws1 f (1 - z) ∧ (1 ≤ vi ws1 0 4 ∨ (z = 1 ∧ vi ws1 0 39 = vi ws 0 39 ∧ vi ws1 0 37 = vi ws 0 37 + 1) ∨ vi ws1 0 39 = vi ws 0 39 + 1)) ∧ vi ws1 0 7 ≤ 1600 ∧ FRc ws ws1 f) ([.ref r]) ws s.heap.size) ([.ref r]).toArray s 0 0 (va_A ws s.heap.size)) cX12_unit 7 yX12_unit.cls 147 [(0, .ref r), (2, zv 1), (4, zv c0)] [] w := by
    intro w c0 how sm ei he ⟨hx1, hx2, hx3⟩ hc hg
    have ei0 := ei
    unfold EI at ei0
    obtain ⟨⟨p1, p2, -⟩, -, -, ⟨w1, w2⟩, ⟨u1, u2⟩, f1, ⟨d1, d2⟩, k1, -⟩ := ei0
    have cb1 := cn_b (q := q37) (e := vi w 23) (vi w 0 38).toNat
    have cb2 := cn_b (q := q3) (e := vi w 23) (vi w 0 38).toNat
    refine hr_aln C 0 dX12_unit_147 rfl rfl rfl ?_
    refine hr_cV (As := []) (rest := []) C (hM_fx (km293 h)) ⟨by decide, by decide⟩ iV_X12_isGood g_X12_241 TM0 hr0 dX12_unit_148 rfl rfl (Nat.le_of_ble_eq_true rfl) rfl ⟨(ty_cons (ok_r hr0 (by decide) (by decide)) ty_nil), ⟨_, rfl⟩⟩ (fun w1 rv o2 q3 => ?_)
    obtain ⟨s4, po, hpo5, hrv6, hty7, rt, hfs8⟩ := q3
    replace s4 : fx_sm (gsM, TM, cy, fun _ => True) [] w w1 := s4
    simp only [km293_c, List.mem_cons, List.not_mem_nil, or_false] at hpo5
    rcases hpo5 with rfl | rfl
    · obtain ⟨v9, rfl, hv10⟩ := hrv6
      obtain ⟨z11, rfl, b12, b13, b14⟩ := ok_iz hv10
      simp only [rg] at b14
      obtain rfl : z11 = 1 := by omega
      have hf15 := fs_t hnd o2 hr0 rfl hfs8
      refine hr_norm (st' := [zv (1)]) rfl ?_
      refine hr_if C 156 dX12_unit_151 (by decide) ⟨by omega, by omega⟩ rfl (fun c16 => ?_) (fun c16 => absurd (show (1 : Int) = 0 from c16) (by omega))
      have c16 : ¬ (1 : Int) = 0 := c16
      have h4 : vi w1 0 4 = vi w 0 4 := by rw [sm_f how o2 s4 (by decide)]
      refine hr_aln C 0 dX12_unit_156 rfl rfl rfl ?_
      refine hr_gA (g := 6) C hr0 TM0 rfl (by decide) fl_X12_30 dX12_unit_157 rfl (fun a17 ha18 => ?_)
      refine hr_aln C 0 dX12_unit_160 rfl rfl rfl ?_
      refine hr_gI (lo := 0) (hi := 1) C hr0 TM0 rfl fl_X12_265 dX12_unit_161 rfl (fun b19 b20 => ?_)
      have q21 : vi w1 0 35 = vi w 0 35 := by rw [sm_f how o2 s4 (by decide)]
      rw [q21] at b19 b20 ⊢
      refine hr_dup2 C dX12_unit_164 rfl rfl rfl ?_
      refine hr_ald C ha18 TMa_6 (by omega) (by omega) (by decide) dX12_unit_165 rfl (fun b22 b23 => ?_)
      have b22 := gp1 b22
      have q24 : vi w1 6 (Int.toNat (vi w 0 35)) = vi w 6 (Int.toNat (vi w 0 35)) := by rw [sm_a how o2 s4 TMa_6 (by decide)]
      rw [q24] at b22 b23 ⊢
      simp only [rg] at b23
      refine hr_iln C 1 dX12_unit_166 rfl rfl rfl ?_
      refine hr_if C 174 dX12_unit_167 (by decide) ⟨by omega, by omega⟩ rfl (fun c25 => absurd (show (1 : Int) = 0 from c25) (by omega)) (fun c25 => ?_)
      have c25 : ¬ (1 : Int) = 0 := c25
      refine hr_ic C dX12_unit_170 rfl ?_
      refine hr_goto C 175 dX12_unit_171 (by decide) ?_
      refine hr_add C dX12_unit_175 rfl ?_
      obtain ⟨z26, h27, e28, n29⟩ := zv_norm ((vi w 6 (Int.toNat (vi w 0 35))) + 0)
      rw [e28]
      simp only [rg] at h27
      refine hr_ast C ha18 TMa_6 (by omega) (by omega) (by decide) ⟨by omega, by omega⟩ (hp1 (by omega) (by omega)) dX12_unit_176 rfl (fun w30 o31 s32 e33 => ?_)
      refine hr_aln C 0 dX12_unit_177 rfl rfl rfl ?_
      refine hr_dup C dX12_unit_178 rfl rfl ?_
      refine hr_gI (lo := -2147483648) (hi := 2147483647) C hr0 TM0 rfl fl_X12_311 dX12_unit_179 rfl (fun b34 b35 => ?_)
      have q36 : vi w30 0 39 = vi w 0 39 := by rw [e33, if_neg (by omega)]; rw [sm_f how o2 s4 (by decide)]
      rw [q36] at b34 b35 ⊢
      refine hr_iln C 1 dX12_unit_182 rfl rfl rfl ?_
      refine hr_if C 190 dX12_unit_183 (by decide) ⟨by omega, by omega⟩ rfl (fun c37 => absurd (show (1 : Int) = 0 from c37) (by omega)) (fun c37 => ?_)
      have c37 : ¬ (1 : Int) = 0 := c37
      refine hr_ic C dX12_unit_186 rfl ?_
      refine hr_goto C 191 dX12_unit_187 (by decide) ?_
      refine hr_add C dX12_unit_191 rfl ?_
      refine hr_pI (lo := -2147483648) (hi := 2147483647) C hr0 TM0 rfl ⟨by decide, by decide⟩ pl_X12_311 dX12_unit_192 (by omega) (by omega) rfl (fun w38 o39 s40 e41 => ?_)
      refine hr_il C 2 dX12_unit_195 rfl rfl ?_
      refine hr_if C 207 dX12_unit_197 (by decide) ⟨by omega, by omega⟩ rfl (fun c42 => ?_) (fun c42 => ?_)
      · have c42 : ¬ (c0 : Int) = 0 := c42
        refine hr_ic C dX12_unit_207 rfl ?_
        refine hr_is (lv' := [(6, zv (0)), (0, .ref r), (2, zv (1)), (4, zv (c0))]) C dX12_unit_208 (by decide) rfl rfl ?_
        have h7 : vi w38 0 7 = vi w 0 7 := by rw [e41, if_neg (by omega)]; rw [e33, if_neg (by omega)]; rw [sm_f how o2 s4 (by decide)]
        have h7b := fl_b (fi := 7) (lo := 0) (hi := 1601) how hr0 rfl
        refine hr_aln C 1 dX12_unit_210 rfl rfl rfl ?_
        refine hr_cV (As := []) (rest := []) C (hM_fx (km292 h)) ⟨by decide, by decide⟩ iV_X12_goOn g_X12_245 TM0 hr0 dX12_unit_211 rfl rfl (Nat.le_of_ble_eq_true rfl) rfl ⟨(ty_cons (ok_r hr0 (by decide) (by decide)) ty_nil), (fs_f o39 hr0 rfl ⟨_, _, rfl⟩ (by omega) (by omega))⟩ (fun w43 rv o44 q45 => ?_)
        obtain ⟨s46, po, hpo47, hrv48, hty49, rt, hfs50⟩ := q45
        replace s46 : fx_sm (gsM, TM, cy, fun _ => True) [(12, 6), (12, 7), (12, 8), (12, 9), (12, 10)] w38 w43 := s46
        simp only [km292_c, List.mem_cons, List.not_mem_nil, or_false] at hpo47
        subst hpo47
        obtain rfl := hrv48
        obtain ⟨⟨_, u51⟩, av52, g53, u54⟩ := fs_u (v0 := .ref r) rfl hfs50
        have hf55 := fs_t hnd o44 hr0 rfl u51
        have hf56 := fs_t hnd o44 hr0 g53 u54
        refine hr_norm (st' := []) rfl ?_
        refine hr_iln C 2 dX12_unit_214 rfl rfl rfl ?_
        refine hr_if C 222 dX12_unit_215 (by decide) ⟨by omega, by omega⟩ rfl (fun c57 => ?_) (fun c57 => absurd (show (1 : Int) = 0 from c57) (by omega))
        have c57 : ¬ (1 : Int) = 0 := c57
        refine hr_aln C 1 dX12_unit_222 rfl rfl rfl ?_
        refine hr_iln C 2 dX12_unit_223 rfl rfl rfl ?_
        refine hr_if C 231 dX12_unit_224 (by decide) ⟨by omega, by omega⟩ rfl (fun c58 => absurd (show (1 : Int) = 0 from c58) (by omega)) (fun c58 => ?_)
        have c58 : ¬ (1 : Int) = 0 := c58
        refine hr_ic C dX12_unit_227 rfl ?_
        refine hr_goto C 233 dX12_unit_228 (by decide) ?_
        refine hr_bi C dX12_unit_233 (by decide +kernel) rfl ?_
        refine hr_cV (As := [zv (3), zv (126)]) (rest := []) C (h_pushE h r (3) (126) hr0 ⟨by omega, by omega⟩ ⟨by omega, by omega⟩) ⟨by decide, by decide⟩ iV_X12_pushE g_X12_323 TM0 hr0 dX12_unit_235 rfl rfl (Nat.le_of_ble_eq_true rfl) rfl ⟨rfl, by rw [sm_f o39 o44 s46 (by decide)]; rw [e41, if_neg (by omega)]; rw [e33, if_neg (by omega)]; rw [sm_f how o2 s4 (by decide)]; omega⟩ (fun w59 rv o60 q61 => ?_)
        obtain ⟨s62, rfl, e63, e64, e65⟩ := q61
        refine hr_norm (st' := []) rfl ?_
        refine hr_aln C 1 dX12_unit_238 rfl rfl rfl ?_
        refine hr_dup C dX12_unit_239 rfl rfl ?_
        refine hr_gI (lo := -2147483648) (hi := 2147483647) C hr0 TM0 rfl fl_X12_320 dX12_unit_240 rfl (fun b66 b67 => ?_)
        have q68 : vi w59 0 37 = vi w 0 37 := by rw [sm_f o44 o60 s62 (by decide)]; rw [sm_f o39 o44 s46 (by decide)]; rw [e41, if_neg (by omega)]; rw [e33, if_neg (by omega)]; rw [sm_f how o2 s4 (by decide)]
        rw [q68] at b66 b67 ⊢
        refine hr_ic C dX12_unit_243 rfl ?_
        refine hr_add C dX12_unit_244 rfl ?_
        refine hr_pI (lo := -2147483648) (hi := 2147483647) C hr0 TM0 rfl ⟨by decide, by decide⟩ pl_X12_320 dX12_unit_245 (by omega) (by omega) rfl (fun w69 o70 s71 e72 => ?_)
        refine hr_ic C dX12_unit_248 rfl ?_
        exact hr_zret C hlocks hr (by omega) dX12_unit_249 ⟨(fx_sm_tr (fx_sm_tr (fx_sm_tr (fx_sm_tr (fx_sm_tr (fx_sm_tr sm s4 (by decide)) s32 (by decide)) s40 (by decide)) s46 (by decide)) s62 (by decide)) s71 (by decide)), ⟨_, rfl, by omega, by show EI _ f 0; exact EI_pushes (d := 1) (u := 0) ei (by rw [e72, if_neg (by omega)]; rw [sm_f o44 o60 s62 (by decide)]; rw [sm_f o39 o44 s46 (by decide)]; rw [e41, if_neg (by omega)]; rw [e33, if_neg (by omega)]; rw [sm_f how o2 s4 (by decide)]) (by rw [e72, if_pos ⟨rfl, rfl⟩]) (by rw [e72, if_neg (by omega)]; rw [e63]; rw [sm_f o39 o44 s46 (by decide)]; rw [e41, if_neg (by omega)]; rw [e33, if_neg (by omega)]; rw [sm_f how o2 s4 (by decide)]) (by rw [e72, if_neg (by omega)]; rw [sm_f o44 o60 s62 (by decide)]; rw [sm_f o39 o44 s46 (by decide)]; rw [e41, if_pos ⟨rfl, rfl⟩]) ⟨by omega, by omega⟩ (by omega) (Or.inl ⟨rfl, rfl, rfl, rfl⟩) (fun j => by rw [e72, if_neg (by omega)]; rw [sm_a o44 o60 s62 TMa_21 (by decide)]; rw [sm_a o39 o44 s46 TMa_21 (by decide)]; rw [e41, if_neg (by omega)]; rw [e33, if_neg (by omega)]; rw [sm_a how o2 s4 TMa_21 (by decide)]) (fun j => by rw [e72, if_neg (by omega)]; rw [e64]; rw [show vi w43 0 38 = vi w 0 38 from by rw [sm_f o39 o44 s46 (by decide)]; rw [e41, if_neg (by omega)]; rw [e33, if_neg (by omega)]; rw [sm_f how o2 s4 (by decide)]]; rw [show vi w43 23 j = vi w 23 j from by rw [sm_a o39 o44 s46 TMa_23 (by decide)]; rw [e41, if_neg (by omega)]; rw [e33, if_neg (by omega)]; rw [sm_a how o2 s4 TMa_23 (by decide)]]) (fun j => by rw [e72, if_neg (by omega)]; rw [e65]; rw [show vi w43 0 38 = vi w 0 38 from by rw [sm_f o39 o44 s46 (by decide)]; rw [e41, if_neg (by omega)]; rw [e33, if_neg (by omega)]; rw [sm_f how o2 s4 (by decide)]]; rw [show vi w43 24 j = vi w 24 j from by rw [sm_a o39 o44 s46 TMa_24 (by decide)]; rw [e41, if_neg (by omega)]; rw [e33, if_neg (by omega)]; rw [sm_a how o2 s4 TMa_24 (by decide)]]), by have : vi w69 0 4 = vi w 0 4 := (by rw [e72, if_neg (by omega)]; rw [sm_f o44 o60 s62 (by decide)]; rw [sm_f o39 o44 s46 (by decide)]; rw [e41, if_neg (by omega)]; rw [e33, if_neg (by omega)]; rw [sm_f how o2 s4 (by decide)]); have : vi w59 0 4 = vi w 0 4 := (by rw [sm_f o44 o60 s62 (by decide)]; rw [sm_f o39 o44 s46 (by decide)]; rw [e41, if_neg (by omega)]; rw [e33, if_neg (by omega)]; rw [sm_f how o2 s4 (by decide)]); have : vi w43 0 4 = vi w 0 4 := (by rw [sm_f o39 o44 s46 (by decide)]; rw [e41, if_neg (by omega)]; rw [e33, if_neg (by omega)]; rw [sm_f how o2 s4 (by decide)]); have : vi w38 0 4 = vi w 0 4 := (by rw [e41, if_neg (by omega)]; rw [e33, if_neg (by omega)]; rw [sm_f how o2 s4 (by decide)]); have : vi w30 0 4 = vi w 0 4 := (by rw [e33, if_neg (by omega)]; rw [sm_f how o2 s4 (by decide)]); have : vi w1 0 4 = vi w 0 4 := (by rw [sm_f how o2 s4 (by decide)]); have : vi w69 0 39 = (vi w 0 39) + 0 := (by rw [e72, if_neg (by omega)]; rw [sm_f o44 o60 s62 (by decide)]; rw [sm_f o39 o44 s46 (by decide)]; rw [e41, if_pos ⟨rfl, rfl⟩]); have : vi w69 0 37 = (vi w 0 37) + 1 := (by rw [e72, if_pos ⟨rfl, rfl⟩]); omega⟩, (by rw [e72, if_neg (by omega)]; rw [sm_f o44 o60 s62 (by decide)]; omega), fun j _ => (show vi w69 21 j = vi w 21 j from by rw [e72, if_neg (by omega)]; rw [sm_a o44 o60 s62 TMa_21 (by decide)]; rw [sm_a o39 o44 s46 TMa_21 (by decide)]; rw [e41, if_neg (by omega)]; rw [e33, if_neg (by omega)]; rw [sm_a how o2 s4 TMa_21 (by decide)]).trans (hx3 j)⟩
      · have c42 : (c0 : Int) = 0 := c42
        refine hr_aln C 0 dX12_unit_200 rfl rfl rfl ?_
        refine hr_gI (lo := -2147483648) (hi := 2147483647) C hr0 TM0 rfl fl_X12_231 dX12_unit_201 rfl (fun b73 b74 => ?_)
        have q75 : vi w38 0 9 = vi w 0 9 := by rw [e41, if_neg (by omega)]; rw [e33, if_neg (by omega)]; rw [sm_f how o2 s4 (by decide)]
        rw [q75] at b73 b74 ⊢
        refine hr_goto C 208 dX12_unit_204 (by decide) ?_
        refine hr_is (lv' := [(6, zv (vi w 0 9)), (0, .ref r), (2, zv (1)), (4, zv (c0))]) C dX12_unit_208 (by decide) rfl rfl ?_
        have h7 : vi w38 0 7 = vi w 0 7 := by rw [e41, if_neg (by omega)]; rw [e33, if_neg (by omega)]; rw [sm_f how o2 s4 (by decide)]
        have h7b := fl_b (fi := 7) (lo := 0) (hi := 1601) how hr0 rfl
        refine hr_aln C 1 dX12_unit_210 rfl rfl rfl ?_
        refine hr_cV (As := []) (rest := []) C (hM_fx (km292 h)) ⟨by decide, by decide⟩ iV_X12_goOn g_X12_245 TM0 hr0 dX12_unit_211 rfl rfl (Nat.le_of_ble_eq_true rfl) rfl ⟨(ty_cons (ok_r hr0 (by decide) (by decide)) ty_nil), (fs_f o39 hr0 rfl ⟨_, _, rfl⟩ (by omega) (by omega))⟩ (fun w76 rv o77 q78 => ?_)
        obtain ⟨s79, po, hpo80, hrv81, hty82, rt, hfs83⟩ := q78
        replace s79 : fx_sm (gsM, TM, cy, fun _ => True) [(12, 6), (12, 7), (12, 8), (12, 9), (12, 10)] w38 w76 := s79
        simp only [km292_c, List.mem_cons, List.not_mem_nil, or_false] at hpo80
        subst hpo80
        obtain rfl := hrv81
        obtain ⟨⟨_, u84⟩, av85, g86, u87⟩ := fs_u (v0 := .ref r) rfl hfs83
        have hf88 := fs_t hnd o77 hr0 rfl u84
        have hf89 := fs_t hnd o77 hr0 g86 u87
        refine hr_norm (st' := []) rfl ?_
        refine hr_iln C 2 dX12_unit_214 rfl rfl rfl ?_
        refine hr_if C 222 dX12_unit_215 (by decide) ⟨by omega, by omega⟩ rfl (fun c90 => ?_) (fun c90 => absurd (show (1 : Int) = 0 from c90) (by omega))
        have c90 : ¬ (1 : Int) = 0 := c90
        refine hr_aln C 1 dX12_unit_222 rfl rfl rfl ?_
        refine hr_iln C 2 dX12_unit_223 rfl rfl rfl ?_
        refine hr_if C 231 dX12_unit_224 (by decide) ⟨by omega, by omega⟩ rfl (fun c91 => absurd (show (1 : Int) = 0 from c91) (by omega)) (fun c91 => ?_)
        have c91 : ¬ (1 : Int) = 0 := c91
        refine hr_ic C dX12_unit_227 rfl ?_
        refine hr_goto C 233 dX12_unit_228 (by decide) ?_
        refine hr_bi C dX12_unit_233 (by decide +kernel) rfl ?_
        refine hr_cV (As := [zv (3), zv (126)]) (rest := []) C (h_pushE h r (3) (126) hr0 ⟨by omega, by omega⟩ ⟨by omega, by omega⟩) ⟨by decide, by decide⟩ iV_X12_pushE g_X12_323 TM0 hr0 dX12_unit_235 rfl rfl (Nat.le_of_ble_eq_true rfl) rfl ⟨rfl, by rw [sm_f o39 o77 s79 (by decide)]; rw [e41, if_neg (by omega)]; rw [e33, if_neg (by omega)]; rw [sm_f how o2 s4 (by decide)]; omega⟩ (fun w92 rv o93 q94 => ?_)
        obtain ⟨s95, rfl, e96, e97, e98⟩ := q94
        refine hr_norm (st' := []) rfl ?_
        refine hr_aln C 1 dX12_unit_238 rfl rfl rfl ?_
        refine hr_dup C dX12_unit_239 rfl rfl ?_
        refine hr_gI (lo := -2147483648) (hi := 2147483647) C hr0 TM0 rfl fl_X12_320 dX12_unit_240 rfl (fun b99 b100 => ?_)
        have q101 : vi w92 0 37 = vi w 0 37 := by rw [sm_f o77 o93 s95 (by decide)]; rw [sm_f o39 o77 s79 (by decide)]; rw [e41, if_neg (by omega)]; rw [e33, if_neg (by omega)]; rw [sm_f how o2 s4 (by decide)]
        rw [q101] at b99 b100 ⊢
        refine hr_ic C dX12_unit_243 rfl ?_
        refine hr_add C dX12_unit_244 rfl ?_
        refine hr_pI (lo := -2147483648) (hi := 2147483647) C hr0 TM0 rfl ⟨by decide, by decide⟩ pl_X12_320 dX12_unit_245 (by omega) (by omega) rfl (fun w102 o103 s104 e105 => ?_)
        refine hr_ic C dX12_unit_248 rfl ?_
        exact hr_zret C hlocks hr (by omega) dX12_unit_249 ⟨(fx_sm_tr (fx_sm_tr (fx_sm_tr (fx_sm_tr (fx_sm_tr (fx_sm_tr sm s4 (by decide)) s32 (by decide)) s40 (by decide)) s79 (by decide)) s95 (by decide)) s104 (by decide)), ⟨_, rfl, by omega, by show EI _ f 0; exact EI_pushes (d := 1) (u := 0) ei (by rw [e105, if_neg (by omega)]; rw [sm_f o77 o93 s95 (by decide)]; rw [sm_f o39 o77 s79 (by decide)]; rw [e41, if_neg (by omega)]; rw [e33, if_neg (by omega)]; rw [sm_f how o2 s4 (by decide)]) (by rw [e105, if_pos ⟨rfl, rfl⟩]) (by rw [e105, if_neg (by omega)]; rw [e96]; rw [sm_f o39 o77 s79 (by decide)]; rw [e41, if_neg (by omega)]; rw [e33, if_neg (by omega)]; rw [sm_f how o2 s4 (by decide)]) (by rw [e105, if_neg (by omega)]; rw [sm_f o77 o93 s95 (by decide)]; rw [sm_f o39 o77 s79 (by decide)]; rw [e41, if_pos ⟨rfl, rfl⟩]) ⟨by omega, by omega⟩ (by omega) (Or.inl ⟨rfl, rfl, rfl, rfl⟩) (fun j => by rw [e105, if_neg (by omega)]; rw [sm_a o77 o93 s95 TMa_21 (by decide)]; rw [sm_a o39 o77 s79 TMa_21 (by decide)]; rw [e41, if_neg (by omega)]; rw [e33, if_neg (by omega)]; rw [sm_a how o2 s4 TMa_21 (by decide)]) (fun j => by rw [e105, if_neg (by omega)]; rw [e97]; rw [show vi w76 0 38 = vi w 0 38 from by rw [sm_f o39 o77 s79 (by decide)]; rw [e41, if_neg (by omega)]; rw [e33, if_neg (by omega)]; rw [sm_f how o2 s4 (by decide)]]; rw [show vi w76 23 j = vi w 23 j from by rw [sm_a o39 o77 s79 TMa_23 (by decide)]; rw [e41, if_neg (by omega)]; rw [e33, if_neg (by omega)]; rw [sm_a how o2 s4 TMa_23 (by decide)]]) (fun j => by rw [e105, if_neg (by omega)]; rw [e98]; rw [show vi w76 0 38 = vi w 0 38 from by rw [sm_f o39 o77 s79 (by decide)]; rw [e41, if_neg (by omega)]; rw [e33, if_neg (by omega)]; rw [sm_f how o2 s4 (by decide)]]; rw [show vi w76 24 j = vi w 24 j from by rw [sm_a o39 o77 s79 TMa_24 (by decide)]; rw [e41, if_neg (by omega)]; rw [e33, if_neg (by omega)]; rw [sm_a how o2 s4 TMa_24 (by decide)]]), by have : vi w102 0 4 = vi w 0 4 := (by rw [e105, if_neg (by omega)]; rw [sm_f o77 o93 s95 (by decide)]; rw [sm_f o39 o77 s79 (by decide)]; rw [e41, if_neg (by omega)]; rw [e33, if_neg (by omega)]; rw [sm_f how o2 s4 (by decide)]); have : vi w92 0 4 = vi w 0 4 := (by rw [sm_f o77 o93 s95 (by decide)]; rw [sm_f o39 o77 s79 (by decide)]; rw [e41, if_neg (by omega)]; rw [e33, if_neg (by omega)]; rw [sm_f how o2 s4 (by decide)]); have : vi w76 0 4 = vi w 0 4 := (by rw [sm_f o39 o77 s79 (by decide)]; rw [e41, if_neg (by omega)]; rw [e33, if_neg (by omega)]; rw [sm_f how o2 s4 (by decide)]); have : vi w38 0 4 = vi w 0 4 := (by rw [e41, if_neg (by omega)]; rw [e33, if_neg (by omega)]; rw [sm_f how o2 s4 (by decide)]); have : vi w30 0 4 = vi w 0 4 := (by rw [e33, if_neg (by omega)]; rw [sm_f how o2 s4 (by decide)]); have : vi w1 0 4 = vi w 0 4 := (by rw [sm_f how o2 s4 (by decide)]); have : vi w102 0 39 = (vi w 0 39) + 0 := (by rw [e105, if_neg (by omega)]; rw [sm_f o77 o93 s95 (by decide)]; rw [sm_f o39 o77 s79 (by decide)]; rw [e41, if_pos ⟨rfl, rfl⟩]); have : vi w102 0 37 = (vi w 0 37) + 1 := (by rw [e105, if_pos ⟨rfl, rfl⟩]); omega⟩, (by rw [e105, if_neg (by omega)]; rw [sm_f o77 o93 s95 (by decide)]; omega), fun j _ => (show vi w102 21 j = vi w 21 j from by rw [e105, if_neg (by omega)]; rw [sm_a o77 o93 s95 TMa_21 (by decide)]; rw [sm_a o39 o77 s79 TMa_21 (by decide)]; rw [e41, if_neg (by omega)]; rw [e33, if_neg (by omega)]; rw [sm_a how o2 s4 TMa_21 (by decide)]).trans (hx3 j)⟩
    · obtain ⟨v106, rfl, hv107⟩ := hrv6
      obtain ⟨z108, rfl, b109, b110, b111⟩ := ok_iz hv107
      simp only [rg] at b111
      obtain rfl : z108 = 0 := by omega
      have hf112 := fs_t hnd o2 hr0 rfl hfs8
      refine hr_norm (st' := [zv (0)]) rfl ?_
      refine hr_if C 156 dX12_unit_151 (by decide) ⟨by omega, by omega⟩ rfl (fun c113 => absurd (show ¬ (0 : Int) = 0 from c113) (by omega)) (fun c113 => ?_)
      have c113 : (0 : Int) = 0 := c113
      refine hr_ic C dX12_unit_154 rfl ?_
      exact hr_zret C hlocks hr (by omega) dX12_unit_155 ⟨(fx_sm_tr sm s4 (by decide)), ⟨_, rfl, by omega, by show EI _ f 0; exact EI_congr (by rw [sm_f how o2 s4 (by decide)]) (by rw [sm_f how o2 s4 (by decide)]) (by rw [sm_f how o2 s4 (by decide)]) (by rw [sm_f how o2 s4 (by decide)]) (fun j => by rw [sm_a how o2 s4 TMa_21 (by decide)]) (fun j => by rw [sm_a how o2 s4 TMa_23 (by decide)]) (fun j => by rw [sm_a how o2 s4 TMa_24 (by decide)]) ei, by have : vi w1 0 4 = vi w 0 4 := (by rw [sm_f how o2 s4 (by decide)]); have : vi w1 0 39 = vi w 0 39 := (by rw [sm_f how o2 s4 (by decide)]); have : vi w1 0 37 = vi w 0 37 := (by rw [sm_f how o2 s4 (by decide)]); omega⟩, (by rw [sm_f how o2 s4 (by decide)]; omega), fun j _ => (show vi w1 21 j = vi w 21 j from by rw [sm_a how o2 s4 TMa_21 (by decide)]).trans (hx3 j)⟩
  have k147_01 : ∀ (w : va_W) (c0 : Int), fx_wo (gsM, TM, cy, fun _ => True) ad w → fx_sm (gsM, TM, cy, fun _ => True) [(12, 4), (12, 5), (12, 6), (12, 7), (12, 8), (12, 9), (12, 10), (12, 36), (12, 37), (12, 38), (12, 39), (1000, 6), (1000, 21), (1000, 22), (1000, 23), (1000, 24)] ws w → EI w f 0 → vi w 0 7 ≤ 1600 → (vi w 0 39 = vi ws 0 39 ∧ vi w 0 37 = vi ws 0 37 ∧ ∀ j, vi w 21 j = vi ws 21 j) → (c0 = 0 ∨ (97 ≤ c0 ∧ c0 ≤ 122)) → (1 ≤ vi w 0 4 ∨ (¬ vi w 0 39 = 30 ∧ ¬ vi w 0 37 = 7)) → HW l E ad D cy (va_A ws s.heap.size) s.heap p e ({ frames := 2, cells := 0, slots := 0, locals := 44 }) s m ([.ref r]).toArray below meth c (MQ below (hQ ad D cy (fun _ ws rv ws1 => fx_sm (gsM, TM, cy, fun _ => True) [(12, 4), (12, 5), (12, 6), (12, 7), (12, 8), (12, 9), (12, 10), (12, 36), (12, 37), (12, 38), (12, 39), (1000, 6), (1000, 21), (1000, 22), (1000, 23), (1000, 24)] ws ws1 ∧ (∃ z, rv = some (zv z) ∧ (z = 0 ∨ z = 1) ∧ EI ws1 f (1 - z) ∧ (1 ≤ vi ws1 0 4 ∨ (z = 1 ∧ vi ws1 0 39 = vi ws 0 39 ∧ vi ws1 0 37 = vi ws 0 37 + 1) ∨ vi ws1 0 39 = vi ws 0 39 + 1)) ∧ vi ws1 0 7 ≤ 1600 ∧ FRc ws ws1 f) ([.ref r]) ws s.heap.size) ([.ref r]).toArray s 0 0 (va_A ws s.heap.size)) cX12_unit 7 yX12_unit.cls 147 [(0, .ref r), (2, zv 0), (3, zv 1), (4, zv c0)] [] w := by
    intro w c0 how sm ei he ⟨hx1, hx2, hx3⟩ hc hg
    have ei0 := ei
    unfold EI at ei0
    obtain ⟨⟨p1, p2, -⟩, -, -, ⟨w1, w2⟩, ⟨u1, u2⟩, f1, ⟨d1, d2⟩, k1, -⟩ := ei0
    have cb1 := cn_b (q := q37) (e := vi w 23) (vi w 0 38).toNat
    have cb2 := cn_b (q := q3) (e := vi w 23) (vi w 0 38).toNat
    refine hr_aln C 0 dX12_unit_147 rfl rfl rfl ?_
    refine hr_cV (As := []) (rest := []) C (hM_fx (km293 h)) ⟨by decide, by decide⟩ iV_X12_isGood g_X12_241 TM0 hr0 dX12_unit_148 rfl rfl (Nat.le_of_ble_eq_true rfl) rfl ⟨(ty_cons (ok_r hr0 (by decide) (by decide)) ty_nil), ⟨_, rfl⟩⟩ (fun w1 rv o2 q3 => ?_)
    obtain ⟨s4, po, hpo5, hrv6, hty7, rt, hfs8⟩ := q3
    replace s4 : fx_sm (gsM, TM, cy, fun _ => True) [] w w1 := s4
    simp only [km293_c, List.mem_cons, List.not_mem_nil, or_false] at hpo5
    rcases hpo5 with rfl | rfl
    · obtain ⟨v9, rfl, hv10⟩ := hrv6
      obtain ⟨z11, rfl, b12, b13, b14⟩ := ok_iz hv10
      simp only [rg] at b14
      obtain rfl : z11 = 1 := by omega
      have hf15 := fs_t hnd o2 hr0 rfl hfs8
      refine hr_norm (st' := [zv (1)]) rfl ?_
      refine hr_if C 156 dX12_unit_151 (by decide) ⟨by omega, by omega⟩ rfl (fun c16 => ?_) (fun c16 => absurd (show (1 : Int) = 0 from c16) (by omega))
      have c16 : ¬ (1 : Int) = 0 := c16
      have h4 : vi w1 0 4 = vi w 0 4 := by rw [sm_f how o2 s4 (by decide)]
      refine hr_aln C 0 dX12_unit_156 rfl rfl rfl ?_
      refine hr_gA (g := 6) C hr0 TM0 rfl (by decide) fl_X12_30 dX12_unit_157 rfl (fun a17 ha18 => ?_)
      refine hr_aln C 0 dX12_unit_160 rfl rfl rfl ?_
      refine hr_gI (lo := 0) (hi := 1) C hr0 TM0 rfl fl_X12_265 dX12_unit_161 rfl (fun b19 b20 => ?_)
      have q21 : vi w1 0 35 = vi w 0 35 := by rw [sm_f how o2 s4 (by decide)]
      rw [q21] at b19 b20 ⊢
      refine hr_dup2 C dX12_unit_164 rfl rfl rfl ?_
      refine hr_ald C ha18 TMa_6 (by omega) (by omega) (by decide) dX12_unit_165 rfl (fun b22 b23 => ?_)
      have b22 := gp1 b22
      have q24 : vi w1 6 (Int.toNat (vi w 0 35)) = vi w 6 (Int.toNat (vi w 0 35)) := by rw [sm_a how o2 s4 TMa_6 (by decide)]
      rw [q24] at b22 b23 ⊢
      simp only [rg] at b23
      refine hr_iln C 1 dX12_unit_166 rfl rfl rfl ?_
      refine hr_if C 174 dX12_unit_167 (by decide) ⟨by omega, by omega⟩ rfl (fun c25 => ?_) (fun c25 => absurd (show ¬ (0 : Int) = 0 from c25) (by omega))
      have c25 : (0 : Int) = 0 := c25
      refine hr_ic C dX12_unit_174 rfl ?_
      refine hr_add C dX12_unit_175 rfl ?_
      obtain ⟨z26, h27, e28, n29⟩ := zv_norm ((vi w 6 (Int.toNat (vi w 0 35))) + 1)
      rw [e28]
      simp only [rg] at h27
      refine hr_ast C ha18 TMa_6 (by omega) (by omega) (by decide) ⟨by omega, by omega⟩ (hp1 (by omega) (by omega)) dX12_unit_176 rfl (fun w30 o31 s32 e33 => ?_)
      refine hr_aln C 0 dX12_unit_177 rfl rfl rfl ?_
      refine hr_dup C dX12_unit_178 rfl rfl ?_
      refine hr_gI (lo := -2147483648) (hi := 2147483647) C hr0 TM0 rfl fl_X12_311 dX12_unit_179 rfl (fun b34 b35 => ?_)
      have q36 : vi w30 0 39 = vi w 0 39 := by rw [e33, if_neg (by omega)]; rw [sm_f how o2 s4 (by decide)]
      rw [q36] at b34 b35 ⊢
      refine hr_iln C 1 dX12_unit_182 rfl rfl rfl ?_
      refine hr_if C 190 dX12_unit_183 (by decide) ⟨by omega, by omega⟩ rfl (fun c37 => ?_) (fun c37 => absurd (show ¬ (0 : Int) = 0 from c37) (by omega))
      have c37 : (0 : Int) = 0 := c37
      refine hr_ic C dX12_unit_190 rfl ?_
      refine hr_add C dX12_unit_191 rfl ?_
      refine hr_pI (lo := -2147483648) (hi := 2147483647) C hr0 TM0 rfl ⟨by decide, by decide⟩ pl_X12_311 dX12_unit_192 (by omega) (by omega) rfl (fun w38 o39 s40 e41 => ?_)
      refine hr_il C 3 dX12_unit_195 rfl rfl ?_
      refine hr_if C 207 dX12_unit_197 (by decide) ⟨by omega, by omega⟩ rfl (fun c42 => ?_) (fun c42 => ?_)
      · have c42 : ¬ (c0 : Int) = 0 := c42
        refine hr_ic C dX12_unit_207 rfl ?_
        refine hr_is (lv' := [(6, zv (0)), (0, .ref r), (2, zv (0)), (3, zv (1)), (4, zv (c0))]) C dX12_unit_208 (by decide) rfl rfl ?_
        have h7 : vi w38 0 7 = vi w 0 7 := by rw [e41, if_neg (by omega)]; rw [e33, if_neg (by omega)]; rw [sm_f how o2 s4 (by decide)]
        have h7b := fl_b (fi := 7) (lo := 0) (hi := 1601) how hr0 rfl
        refine hr_aln C 1 dX12_unit_210 rfl rfl rfl ?_
        refine hr_cV (As := []) (rest := []) C (hM_fx (km292 h)) ⟨by decide, by decide⟩ iV_X12_goOn g_X12_245 TM0 hr0 dX12_unit_211 rfl rfl (Nat.le_of_ble_eq_true rfl) rfl ⟨(ty_cons (ok_r hr0 (by decide) (by decide)) ty_nil), (fs_f o39 hr0 rfl ⟨_, _, rfl⟩ (by omega) (by omega))⟩ (fun w43 rv o44 q45 => ?_)
        obtain ⟨s46, po, hpo47, hrv48, hty49, rt, hfs50⟩ := q45
        replace s46 : fx_sm (gsM, TM, cy, fun _ => True) [(12, 6), (12, 7), (12, 8), (12, 9), (12, 10)] w38 w43 := s46
        simp only [km292_c, List.mem_cons, List.not_mem_nil, or_false] at hpo47
        subst hpo47
        obtain rfl := hrv48
        obtain ⟨⟨_, u51⟩, av52, g53, u54⟩ := fs_u (v0 := .ref r) rfl hfs50
        have hf55 := fs_t hnd o44 hr0 rfl u51
        have hf56 := fs_t hnd o44 hr0 g53 u54
        refine hr_norm (st' := []) rfl ?_
        refine hr_iln C 2 dX12_unit_214 rfl rfl rfl ?_
        refine hr_if C 222 dX12_unit_215 (by decide) ⟨by omega, by omega⟩ rfl (fun c57 => absurd (show ¬ (0 : Int) = 0 from c57) (by omega)) (fun c57 => ?_)
        have c57 : (0 : Int) = 0 := c57
        refine hr_iln C 3 dX12_unit_218 rfl rfl rfl ?_
        refine hr_if C 250 dX12_unit_219 (by decide) ⟨by omega, by omega⟩ rfl (fun c58 => absurd (show (1 : Int) = 0 from c58) (by omega)) (fun c58 => ?_)
        have c58 : ¬ (1 : Int) = 0 := c58
        refine hr_aln C 1 dX12_unit_222 rfl rfl rfl ?_
        refine hr_iln C 2 dX12_unit_223 rfl rfl rfl ?_
        refine hr_if C 231 dX12_unit_224 (by decide) ⟨by omega, by omega⟩ rfl (fun c59 => ?_) (fun c59 => absurd (show ¬ (0 : Int) = 0 from c59) (by omega))
        have c59 : (0 : Int) = 0 := c59
        refine hr_bi C dX12_unit_231 (by decide +kernel) rfl ?_
        refine hr_bi C dX12_unit_233 (by decide +kernel) rfl ?_
        refine hr_cV (As := [zv (7), zv (126)]) (rest := []) C (h_pushE h r (7) (126) hr0 ⟨by omega, by omega⟩ ⟨by omega, by omega⟩) ⟨by decide, by decide⟩ iV_X12_pushE g_X12_323 TM0 hr0 dX12_unit_235 rfl rfl (Nat.le_of_ble_eq_true rfl) rfl ⟨rfl, by rw [sm_f o39 o44 s46 (by decide)]; rw [e41, if_neg (by omega)]; rw [e33, if_neg (by omega)]; rw [sm_f how o2 s4 (by decide)]; omega⟩ (fun w60 rv o61 q62 => ?_)
        obtain ⟨s63, rfl, e64, e65, e66⟩ := q62
        refine hr_norm (st' := []) rfl ?_
        refine hr_aln C 1 dX12_unit_238 rfl rfl rfl ?_
        refine hr_dup C dX12_unit_239 rfl rfl ?_
        refine hr_gI (lo := -2147483648) (hi := 2147483647) C hr0 TM0 rfl fl_X12_320 dX12_unit_240 rfl (fun b67 b68 => ?_)
        have q69 : vi w60 0 37 = vi w 0 37 := by rw [sm_f o44 o61 s63 (by decide)]; rw [sm_f o39 o44 s46 (by decide)]; rw [e41, if_neg (by omega)]; rw [e33, if_neg (by omega)]; rw [sm_f how o2 s4 (by decide)]
        rw [q69] at b67 b68 ⊢
        refine hr_ic C dX12_unit_243 rfl ?_
        refine hr_add C dX12_unit_244 rfl ?_
        refine hr_pI (lo := -2147483648) (hi := 2147483647) C hr0 TM0 rfl ⟨by decide, by decide⟩ pl_X12_320 dX12_unit_245 (by omega) (by omega) rfl (fun w70 o71 s72 e73 => ?_)
        refine hr_ic C dX12_unit_248 rfl ?_
        exact hr_zret C hlocks hr (by omega) dX12_unit_249 ⟨(fx_sm_tr (fx_sm_tr (fx_sm_tr (fx_sm_tr (fx_sm_tr (fx_sm_tr sm s4 (by decide)) s32 (by decide)) s40 (by decide)) s46 (by decide)) s63 (by decide)) s72 (by decide)), ⟨_, rfl, by omega, by show EI _ f 0; exact EI_pushes (d := 1) (u := 1) ei (by rw [e73, if_neg (by omega)]; rw [sm_f o44 o61 s63 (by decide)]; rw [sm_f o39 o44 s46 (by decide)]; rw [e41, if_neg (by omega)]; rw [e33, if_neg (by omega)]; rw [sm_f how o2 s4 (by decide)]) (by rw [e73, if_pos ⟨rfl, rfl⟩]) (by rw [e73, if_neg (by omega)]; rw [e64]; rw [sm_f o39 o44 s46 (by decide)]; rw [e41, if_neg (by omega)]; rw [e33, if_neg (by omega)]; rw [sm_f how o2 s4 (by decide)]) (by rw [e73, if_neg (by omega)]; rw [sm_f o44 o61 s63 (by decide)]; rw [sm_f o39 o44 s46 (by decide)]; rw [e41, if_pos ⟨rfl, rfl⟩]) ⟨by omega, by omega⟩ (by omega) (Or.inr (Or.inl ⟨rfl, rfl, rfl⟩)) (fun j => by rw [e73, if_neg (by omega)]; rw [sm_a o44 o61 s63 TMa_21 (by decide)]; rw [sm_a o39 o44 s46 TMa_21 (by decide)]; rw [e41, if_neg (by omega)]; rw [e33, if_neg (by omega)]; rw [sm_a how o2 s4 TMa_21 (by decide)]) (fun j => by rw [e73, if_neg (by omega)]; rw [e65]; rw [show vi w43 0 38 = vi w 0 38 from by rw [sm_f o39 o44 s46 (by decide)]; rw [e41, if_neg (by omega)]; rw [e33, if_neg (by omega)]; rw [sm_f how o2 s4 (by decide)]]; rw [show vi w43 23 j = vi w 23 j from by rw [sm_a o39 o44 s46 TMa_23 (by decide)]; rw [e41, if_neg (by omega)]; rw [e33, if_neg (by omega)]; rw [sm_a how o2 s4 TMa_23 (by decide)]]) (fun j => by rw [e73, if_neg (by omega)]; rw [e66]; rw [show vi w43 0 38 = vi w 0 38 from by rw [sm_f o39 o44 s46 (by decide)]; rw [e41, if_neg (by omega)]; rw [e33, if_neg (by omega)]; rw [sm_f how o2 s4 (by decide)]]; rw [show vi w43 24 j = vi w 24 j from by rw [sm_a o39 o44 s46 TMa_24 (by decide)]; rw [e41, if_neg (by omega)]; rw [e33, if_neg (by omega)]; rw [sm_a how o2 s4 TMa_24 (by decide)]]), by have : vi w70 0 4 = vi w 0 4 := (by rw [e73, if_neg (by omega)]; rw [sm_f o44 o61 s63 (by decide)]; rw [sm_f o39 o44 s46 (by decide)]; rw [e41, if_neg (by omega)]; rw [e33, if_neg (by omega)]; rw [sm_f how o2 s4 (by decide)]); have : vi w60 0 4 = vi w 0 4 := (by rw [sm_f o44 o61 s63 (by decide)]; rw [sm_f o39 o44 s46 (by decide)]; rw [e41, if_neg (by omega)]; rw [e33, if_neg (by omega)]; rw [sm_f how o2 s4 (by decide)]); have : vi w43 0 4 = vi w 0 4 := (by rw [sm_f o39 o44 s46 (by decide)]; rw [e41, if_neg (by omega)]; rw [e33, if_neg (by omega)]; rw [sm_f how o2 s4 (by decide)]); have : vi w38 0 4 = vi w 0 4 := (by rw [e41, if_neg (by omega)]; rw [e33, if_neg (by omega)]; rw [sm_f how o2 s4 (by decide)]); have : vi w30 0 4 = vi w 0 4 := (by rw [e33, if_neg (by omega)]; rw [sm_f how o2 s4 (by decide)]); have : vi w1 0 4 = vi w 0 4 := (by rw [sm_f how o2 s4 (by decide)]); have : vi w70 0 39 = (vi w 0 39) + 1 := (by rw [e73, if_neg (by omega)]; rw [sm_f o44 o61 s63 (by decide)]; rw [sm_f o39 o44 s46 (by decide)]; rw [e41, if_pos ⟨rfl, rfl⟩]); have : vi w70 0 37 = (vi w 0 37) + 1 := (by rw [e73, if_pos ⟨rfl, rfl⟩]); omega⟩, (by rw [e73, if_neg (by omega)]; rw [sm_f o44 o61 s63 (by decide)]; omega), fun j _ => (show vi w70 21 j = vi w 21 j from by rw [e73, if_neg (by omega)]; rw [sm_a o44 o61 s63 TMa_21 (by decide)]; rw [sm_a o39 o44 s46 TMa_21 (by decide)]; rw [e41, if_neg (by omega)]; rw [e33, if_neg (by omega)]; rw [sm_a how o2 s4 TMa_21 (by decide)]).trans (hx3 j)⟩
      · have c42 : (c0 : Int) = 0 := c42
        refine hr_aln C 0 dX12_unit_200 rfl rfl rfl ?_
        refine hr_gI (lo := -2147483648) (hi := 2147483647) C hr0 TM0 rfl fl_X12_231 dX12_unit_201 rfl (fun b74 b75 => ?_)
        have q76 : vi w38 0 9 = vi w 0 9 := by rw [e41, if_neg (by omega)]; rw [e33, if_neg (by omega)]; rw [sm_f how o2 s4 (by decide)]
        rw [q76] at b74 b75 ⊢
        refine hr_goto C 208 dX12_unit_204 (by decide) ?_
        refine hr_is (lv' := [(6, zv (vi w 0 9)), (0, .ref r), (2, zv (0)), (3, zv (1)), (4, zv (c0))]) C dX12_unit_208 (by decide) rfl rfl ?_
        have h7 : vi w38 0 7 = vi w 0 7 := by rw [e41, if_neg (by omega)]; rw [e33, if_neg (by omega)]; rw [sm_f how o2 s4 (by decide)]
        have h7b := fl_b (fi := 7) (lo := 0) (hi := 1601) how hr0 rfl
        refine hr_aln C 1 dX12_unit_210 rfl rfl rfl ?_
        refine hr_cV (As := []) (rest := []) C (hM_fx (km292 h)) ⟨by decide, by decide⟩ iV_X12_goOn g_X12_245 TM0 hr0 dX12_unit_211 rfl rfl (Nat.le_of_ble_eq_true rfl) rfl ⟨(ty_cons (ok_r hr0 (by decide) (by decide)) ty_nil), (fs_f o39 hr0 rfl ⟨_, _, rfl⟩ (by omega) (by omega))⟩ (fun w77 rv o78 q79 => ?_)
        obtain ⟨s80, po, hpo81, hrv82, hty83, rt, hfs84⟩ := q79
        replace s80 : fx_sm (gsM, TM, cy, fun _ => True) [(12, 6), (12, 7), (12, 8), (12, 9), (12, 10)] w38 w77 := s80
        simp only [km292_c, List.mem_cons, List.not_mem_nil, or_false] at hpo81
        subst hpo81
        obtain rfl := hrv82
        obtain ⟨⟨_, u85⟩, av86, g87, u88⟩ := fs_u (v0 := .ref r) rfl hfs84
        have hf89 := fs_t hnd o78 hr0 rfl u85
        have hf90 := fs_t hnd o78 hr0 g87 u88
        refine hr_norm (st' := []) rfl ?_
        refine hr_iln C 2 dX12_unit_214 rfl rfl rfl ?_
        refine hr_if C 222 dX12_unit_215 (by decide) ⟨by omega, by omega⟩ rfl (fun c91 => absurd (show ¬ (0 : Int) = 0 from c91) (by omega)) (fun c91 => ?_)
        have c91 : (0 : Int) = 0 := c91
        refine hr_iln C 3 dX12_unit_218 rfl rfl rfl ?_
        refine hr_if C 250 dX12_unit_219 (by decide) ⟨by omega, by omega⟩ rfl (fun c92 => absurd (show (1 : Int) = 0 from c92) (by omega)) (fun c92 => ?_)
        have c92 : ¬ (1 : Int) = 0 := c92
        refine hr_aln C 1 dX12_unit_222 rfl rfl rfl ?_
        refine hr_iln C 2 dX12_unit_223 rfl rfl rfl ?_
        refine hr_if C 231 dX12_unit_224 (by decide) ⟨by omega, by omega⟩ rfl (fun c93 => ?_) (fun c93 => absurd (show ¬ (0 : Int) = 0 from c93) (by omega))
        have c93 : (0 : Int) = 0 := c93
        refine hr_bi C dX12_unit_231 (by decide +kernel) rfl ?_
        refine hr_bi C dX12_unit_233 (by decide +kernel) rfl ?_
        refine hr_cV (As := [zv (7), zv (126)]) (rest := []) C (h_pushE h r (7) (126) hr0 ⟨by omega, by omega⟩ ⟨by omega, by omega⟩) ⟨by decide, by decide⟩ iV_X12_pushE g_X12_323 TM0 hr0 dX12_unit_235 rfl rfl (Nat.le_of_ble_eq_true rfl) rfl ⟨rfl, by rw [sm_f o39 o78 s80 (by decide)]; rw [e41, if_neg (by omega)]; rw [e33, if_neg (by omega)]; rw [sm_f how o2 s4 (by decide)]; omega⟩ (fun w94 rv o95 q96 => ?_)
        obtain ⟨s97, rfl, e98, e99, e100⟩ := q96
        refine hr_norm (st' := []) rfl ?_
        refine hr_aln C 1 dX12_unit_238 rfl rfl rfl ?_
        refine hr_dup C dX12_unit_239 rfl rfl ?_
        refine hr_gI (lo := -2147483648) (hi := 2147483647) C hr0 TM0 rfl fl_X12_320 dX12_unit_240 rfl (fun b101 b102 => ?_)
        have q103 : vi w94 0 37 = vi w 0 37 := by rw [sm_f o78 o95 s97 (by decide)]; rw [sm_f o39 o78 s80 (by decide)]; rw [e41, if_neg (by omega)]; rw [e33, if_neg (by omega)]; rw [sm_f how o2 s4 (by decide)]
        rw [q103] at b101 b102 ⊢
        refine hr_ic C dX12_unit_243 rfl ?_
        refine hr_add C dX12_unit_244 rfl ?_
        refine hr_pI (lo := -2147483648) (hi := 2147483647) C hr0 TM0 rfl ⟨by decide, by decide⟩ pl_X12_320 dX12_unit_245 (by omega) (by omega) rfl (fun w104 o105 s106 e107 => ?_)
        refine hr_ic C dX12_unit_248 rfl ?_
        exact hr_zret C hlocks hr (by omega) dX12_unit_249 ⟨(fx_sm_tr (fx_sm_tr (fx_sm_tr (fx_sm_tr (fx_sm_tr (fx_sm_tr sm s4 (by decide)) s32 (by decide)) s40 (by decide)) s80 (by decide)) s97 (by decide)) s106 (by decide)), ⟨_, rfl, by omega, by show EI _ f 0; exact EI_pushes (d := 1) (u := 1) ei (by rw [e107, if_neg (by omega)]; rw [sm_f o78 o95 s97 (by decide)]; rw [sm_f o39 o78 s80 (by decide)]; rw [e41, if_neg (by omega)]; rw [e33, if_neg (by omega)]; rw [sm_f how o2 s4 (by decide)]) (by rw [e107, if_pos ⟨rfl, rfl⟩]) (by rw [e107, if_neg (by omega)]; rw [e98]; rw [sm_f o39 o78 s80 (by decide)]; rw [e41, if_neg (by omega)]; rw [e33, if_neg (by omega)]; rw [sm_f how o2 s4 (by decide)]) (by rw [e107, if_neg (by omega)]; rw [sm_f o78 o95 s97 (by decide)]; rw [sm_f o39 o78 s80 (by decide)]; rw [e41, if_pos ⟨rfl, rfl⟩]) ⟨by omega, by omega⟩ (by omega) (Or.inr (Or.inl ⟨rfl, rfl, rfl⟩)) (fun j => by rw [e107, if_neg (by omega)]; rw [sm_a o78 o95 s97 TMa_21 (by decide)]; rw [sm_a o39 o78 s80 TMa_21 (by decide)]; rw [e41, if_neg (by omega)]; rw [e33, if_neg (by omega)]; rw [sm_a how o2 s4 TMa_21 (by decide)]) (fun j => by rw [e107, if_neg (by omega)]; rw [e99]; rw [show vi w77 0 38 = vi w 0 38 from by rw [sm_f o39 o78 s80 (by decide)]; rw [e41, if_neg (by omega)]; rw [e33, if_neg (by omega)]; rw [sm_f how o2 s4 (by decide)]]; rw [show vi w77 23 j = vi w 23 j from by rw [sm_a o39 o78 s80 TMa_23 (by decide)]; rw [e41, if_neg (by omega)]; rw [e33, if_neg (by omega)]; rw [sm_a how o2 s4 TMa_23 (by decide)]]) (fun j => by rw [e107, if_neg (by omega)]; rw [e100]; rw [show vi w77 0 38 = vi w 0 38 from by rw [sm_f o39 o78 s80 (by decide)]; rw [e41, if_neg (by omega)]; rw [e33, if_neg (by omega)]; rw [sm_f how o2 s4 (by decide)]]; rw [show vi w77 24 j = vi w 24 j from by rw [sm_a o39 o78 s80 TMa_24 (by decide)]; rw [e41, if_neg (by omega)]; rw [e33, if_neg (by omega)]; rw [sm_a how o2 s4 TMa_24 (by decide)]]), by have : vi w104 0 4 = vi w 0 4 := (by rw [e107, if_neg (by omega)]; rw [sm_f o78 o95 s97 (by decide)]; rw [sm_f o39 o78 s80 (by decide)]; rw [e41, if_neg (by omega)]; rw [e33, if_neg (by omega)]; rw [sm_f how o2 s4 (by decide)]); have : vi w94 0 4 = vi w 0 4 := (by rw [sm_f o78 o95 s97 (by decide)]; rw [sm_f o39 o78 s80 (by decide)]; rw [e41, if_neg (by omega)]; rw [e33, if_neg (by omega)]; rw [sm_f how o2 s4 (by decide)]); have : vi w77 0 4 = vi w 0 4 := (by rw [sm_f o39 o78 s80 (by decide)]; rw [e41, if_neg (by omega)]; rw [e33, if_neg (by omega)]; rw [sm_f how o2 s4 (by decide)]); have : vi w38 0 4 = vi w 0 4 := (by rw [e41, if_neg (by omega)]; rw [e33, if_neg (by omega)]; rw [sm_f how o2 s4 (by decide)]); have : vi w30 0 4 = vi w 0 4 := (by rw [e33, if_neg (by omega)]; rw [sm_f how o2 s4 (by decide)]); have : vi w1 0 4 = vi w 0 4 := (by rw [sm_f how o2 s4 (by decide)]); have : vi w104 0 39 = (vi w 0 39) + 1 := (by rw [e107, if_neg (by omega)]; rw [sm_f o78 o95 s97 (by decide)]; rw [sm_f o39 o78 s80 (by decide)]; rw [e41, if_pos ⟨rfl, rfl⟩]); have : vi w104 0 37 = (vi w 0 37) + 1 := (by rw [e107, if_pos ⟨rfl, rfl⟩]); omega⟩, (by rw [e107, if_neg (by omega)]; rw [sm_f o78 o95 s97 (by decide)]; omega), fun j _ => (show vi w104 21 j = vi w 21 j from by rw [e107, if_neg (by omega)]; rw [sm_a o78 o95 s97 TMa_21 (by decide)]; rw [sm_a o39 o78 s80 TMa_21 (by decide)]; rw [e41, if_neg (by omega)]; rw [e33, if_neg (by omega)]; rw [sm_a how o2 s4 TMa_21 (by decide)]).trans (hx3 j)⟩
    · obtain ⟨v108, rfl, hv109⟩ := hrv6
      obtain ⟨z110, rfl, b111, b112, b113⟩ := ok_iz hv109
      simp only [rg] at b113
      obtain rfl : z110 = 0 := by omega
      have hf114 := fs_t hnd o2 hr0 rfl hfs8
      refine hr_norm (st' := [zv (0)]) rfl ?_
      refine hr_if C 156 dX12_unit_151 (by decide) ⟨by omega, by omega⟩ rfl (fun c115 => absurd (show ¬ (0 : Int) = 0 from c115) (by omega)) (fun c115 => ?_)
      have c115 : (0 : Int) = 0 := c115
      refine hr_ic C dX12_unit_154 rfl ?_
      exact hr_zret C hlocks hr (by omega) dX12_unit_155 ⟨(fx_sm_tr sm s4 (by decide)), ⟨_, rfl, by omega, by show EI _ f 0; exact EI_congr (by rw [sm_f how o2 s4 (by decide)]) (by rw [sm_f how o2 s4 (by decide)]) (by rw [sm_f how o2 s4 (by decide)]) (by rw [sm_f how o2 s4 (by decide)]) (fun j => by rw [sm_a how o2 s4 TMa_21 (by decide)]) (fun j => by rw [sm_a how o2 s4 TMa_23 (by decide)]) (fun j => by rw [sm_a how o2 s4 TMa_24 (by decide)]) ei, by have : vi w1 0 4 = vi w 0 4 := (by rw [sm_f how o2 s4 (by decide)]); have : vi w1 0 39 = vi w 0 39 := (by rw [sm_f how o2 s4 (by decide)]); have : vi w1 0 37 = vi w 0 37 := (by rw [sm_f how o2 s4 (by decide)]); omega⟩, (by rw [sm_f how o2 s4 (by decide)]; omega), fun j _ => (show vi w1 21 j = vi w 21 j from by rw [sm_a how o2 s4 TMa_21 (by decide)]).trans (hx3 j)⟩
  have k147_00 : ∀ (w : va_W) (c0 : Int), fx_wo (gsM, TM, cy, fun _ => True) ad w → fx_sm (gsM, TM, cy, fun _ => True) [(12, 4), (12, 5), (12, 6), (12, 7), (12, 8), (12, 9), (12, 10), (12, 36), (12, 37), (12, 38), (12, 39), (1000, 6), (1000, 21), (1000, 22), (1000, 23), (1000, 24)] ws w → EI w f 0 → vi w 0 7 ≤ 1600 → (vi w 0 39 = vi ws 0 39 ∧ vi w 0 37 = vi ws 0 37 ∧ ∀ j, vi w 21 j = vi ws 21 j) → (c0 = 0 ∨ (97 ≤ c0 ∧ c0 ≤ 122)) → (1 ≤ vi w 0 4 ∨ (¬ vi w 0 39 = 30)) → HW l E ad D cy (va_A ws s.heap.size) s.heap p e ({ frames := 2, cells := 0, slots := 0, locals := 44 }) s m ([.ref r]).toArray below meth c (MQ below (hQ ad D cy (fun _ ws rv ws1 => fx_sm (gsM, TM, cy, fun _ => True) [(12, 4), (12, 5), (12, 6), (12, 7), (12, 8), (12, 9), (12, 10), (12, 36), (12, 37), (12, 38), (12, 39), (1000, 6), (1000, 21), (1000, 22), (1000, 23), (1000, 24)] ws ws1 ∧ (∃ z, rv = some (zv z) ∧ (z = 0 ∨ z = 1) ∧ EI ws1 f (1 - z) ∧ (1 ≤ vi ws1 0 4 ∨ (z = 1 ∧ vi ws1 0 39 = vi ws 0 39 ∧ vi ws1 0 37 = vi ws 0 37 + 1) ∨ vi ws1 0 39 = vi ws 0 39 + 1)) ∧ vi ws1 0 7 ≤ 1600 ∧ FRc ws ws1 f) ([.ref r]) ws s.heap.size) ([.ref r]).toArray s 0 0 (va_A ws s.heap.size)) cX12_unit 7 yX12_unit.cls 147 [(0, .ref r), (2, zv 0), (3, zv 0), (4, zv c0)] [] w := by
    intro w c0 how sm ei he ⟨hx1, hx2, hx3⟩ hc hg
    have ei0 := ei
    unfold EI at ei0
    obtain ⟨⟨p1, p2, -⟩, -, -, ⟨w1, w2⟩, ⟨u1, u2⟩, f1, ⟨d1, d2⟩, k1, -⟩ := ei0
    have cb1 := cn_b (q := q37) (e := vi w 23) (vi w 0 38).toNat
    have cb2 := cn_b (q := q3) (e := vi w 23) (vi w 0 38).toNat
    refine hr_aln C 0 dX12_unit_147 rfl rfl rfl ?_
    refine hr_cV (As := []) (rest := []) C (hM_fx (km293 h)) ⟨by decide, by decide⟩ iV_X12_isGood g_X12_241 TM0 hr0 dX12_unit_148 rfl rfl (Nat.le_of_ble_eq_true rfl) rfl ⟨(ty_cons (ok_r hr0 (by decide) (by decide)) ty_nil), ⟨_, rfl⟩⟩ (fun w1 rv o2 q3 => ?_)
    obtain ⟨s4, po, hpo5, hrv6, hty7, rt, hfs8⟩ := q3
    replace s4 : fx_sm (gsM, TM, cy, fun _ => True) [] w w1 := s4
    simp only [km293_c, List.mem_cons, List.not_mem_nil, or_false] at hpo5
    rcases hpo5 with rfl | rfl
    · obtain ⟨v9, rfl, hv10⟩ := hrv6
      obtain ⟨z11, rfl, b12, b13, b14⟩ := ok_iz hv10
      simp only [rg] at b14
      obtain rfl : z11 = 1 := by omega
      have hf15 := fs_t hnd o2 hr0 rfl hfs8
      refine hr_norm (st' := [zv (1)]) rfl ?_
      refine hr_if C 156 dX12_unit_151 (by decide) ⟨by omega, by omega⟩ rfl (fun c16 => ?_) (fun c16 => absurd (show (1 : Int) = 0 from c16) (by omega))
      have c16 : ¬ (1 : Int) = 0 := c16
      have h4 : vi w1 0 4 = vi w 0 4 := by rw [sm_f how o2 s4 (by decide)]
      refine hr_aln C 0 dX12_unit_156 rfl rfl rfl ?_
      refine hr_gA (g := 6) C hr0 TM0 rfl (by decide) fl_X12_30 dX12_unit_157 rfl (fun a17 ha18 => ?_)
      refine hr_aln C 0 dX12_unit_160 rfl rfl rfl ?_
      refine hr_gI (lo := 0) (hi := 1) C hr0 TM0 rfl fl_X12_265 dX12_unit_161 rfl (fun b19 b20 => ?_)
      have q21 : vi w1 0 35 = vi w 0 35 := by rw [sm_f how o2 s4 (by decide)]
      rw [q21] at b19 b20 ⊢
      refine hr_dup2 C dX12_unit_164 rfl rfl rfl ?_
      refine hr_ald C ha18 TMa_6 (by omega) (by omega) (by decide) dX12_unit_165 rfl (fun b22 b23 => ?_)
      have b22 := gp1 b22
      have q24 : vi w1 6 (Int.toNat (vi w 0 35)) = vi w 6 (Int.toNat (vi w 0 35)) := by rw [sm_a how o2 s4 TMa_6 (by decide)]
      rw [q24] at b22 b23 ⊢
      simp only [rg] at b23
      refine hr_iln C 1 dX12_unit_166 rfl rfl rfl ?_
      refine hr_if C 174 dX12_unit_167 (by decide) ⟨by omega, by omega⟩ rfl (fun c25 => ?_) (fun c25 => absurd (show ¬ (0 : Int) = 0 from c25) (by omega))
      have c25 : (0 : Int) = 0 := c25
      refine hr_ic C dX12_unit_174 rfl ?_
      refine hr_add C dX12_unit_175 rfl ?_
      obtain ⟨z26, h27, e28, n29⟩ := zv_norm ((vi w 6 (Int.toNat (vi w 0 35))) + 1)
      rw [e28]
      simp only [rg] at h27
      refine hr_ast C ha18 TMa_6 (by omega) (by omega) (by decide) ⟨by omega, by omega⟩ (hp1 (by omega) (by omega)) dX12_unit_176 rfl (fun w30 o31 s32 e33 => ?_)
      refine hr_aln C 0 dX12_unit_177 rfl rfl rfl ?_
      refine hr_dup C dX12_unit_178 rfl rfl ?_
      refine hr_gI (lo := -2147483648) (hi := 2147483647) C hr0 TM0 rfl fl_X12_311 dX12_unit_179 rfl (fun b34 b35 => ?_)
      have q36 : vi w30 0 39 = vi w 0 39 := by rw [e33, if_neg (by omega)]; rw [sm_f how o2 s4 (by decide)]
      rw [q36] at b34 b35 ⊢
      refine hr_iln C 1 dX12_unit_182 rfl rfl rfl ?_
      refine hr_if C 190 dX12_unit_183 (by decide) ⟨by omega, by omega⟩ rfl (fun c37 => ?_) (fun c37 => absurd (show ¬ (0 : Int) = 0 from c37) (by omega))
      have c37 : (0 : Int) = 0 := c37
      refine hr_ic C dX12_unit_190 rfl ?_
      refine hr_add C dX12_unit_191 rfl ?_
      refine hr_pI (lo := -2147483648) (hi := 2147483647) C hr0 TM0 rfl ⟨by decide, by decide⟩ pl_X12_311 dX12_unit_192 (by omega) (by omega) rfl (fun w38 o39 s40 e41 => ?_)
      refine hr_il C 3 dX12_unit_195 rfl rfl ?_
      refine hr_if C 207 dX12_unit_197 (by decide) ⟨by omega, by omega⟩ rfl (fun c42 => ?_) (fun c42 => ?_)
      · have c42 : ¬ (c0 : Int) = 0 := c42
        refine hr_ic C dX12_unit_207 rfl ?_
        refine hr_is (lv' := [(6, zv (0)), (0, .ref r), (2, zv (0)), (3, zv (0)), (4, zv (c0))]) C dX12_unit_208 (by decide) rfl rfl ?_
        have h7 : vi w38 0 7 = vi w 0 7 := by rw [e41, if_neg (by omega)]; rw [e33, if_neg (by omega)]; rw [sm_f how o2 s4 (by decide)]
        have h7b := fl_b (fi := 7) (lo := 0) (hi := 1601) how hr0 rfl
        refine hr_aln C 1 dX12_unit_210 rfl rfl rfl ?_
        refine hr_cV (As := []) (rest := []) C (hM_fx (km292 h)) ⟨by decide, by decide⟩ iV_X12_goOn g_X12_245 TM0 hr0 dX12_unit_211 rfl rfl (Nat.le_of_ble_eq_true rfl) rfl ⟨(ty_cons (ok_r hr0 (by decide) (by decide)) ty_nil), (fs_f o39 hr0 rfl ⟨_, _, rfl⟩ (by omega) (by omega))⟩ (fun w43 rv o44 q45 => ?_)
        obtain ⟨s46, po, hpo47, hrv48, hty49, rt, hfs50⟩ := q45
        replace s46 : fx_sm (gsM, TM, cy, fun _ => True) [(12, 6), (12, 7), (12, 8), (12, 9), (12, 10)] w38 w43 := s46
        simp only [km292_c, List.mem_cons, List.not_mem_nil, or_false] at hpo47
        subst hpo47
        obtain rfl := hrv48
        obtain ⟨⟨_, u51⟩, av52, g53, u54⟩ := fs_u (v0 := .ref r) rfl hfs50
        have hf55 := fs_t hnd o44 hr0 rfl u51
        have hf56 := fs_t hnd o44 hr0 g53 u54
        refine hr_norm (st' := []) rfl ?_
        refine hr_iln C 2 dX12_unit_214 rfl rfl rfl ?_
        refine hr_if C 222 dX12_unit_215 (by decide) ⟨by omega, by omega⟩ rfl (fun c57 => absurd (show ¬ (0 : Int) = 0 from c57) (by omega)) (fun c57 => ?_)
        have c57 : (0 : Int) = 0 := c57
        refine hr_iln C 3 dX12_unit_218 rfl rfl rfl ?_
        refine hr_if C 250 dX12_unit_219 (by decide) ⟨by omega, by omega⟩ rfl (fun c58 => ?_) (fun c58 => absurd (show ¬ (0 : Int) = 0 from c58) (by omega))
        have c58 : (0 : Int) = 0 := c58
        refine hr_aln C 1 dX12_unit_250 rfl rfl rfl ?_
        refine hr_il C 4 dX12_unit_251 rfl rfl ?_
        refine hr_if C 261 dX12_unit_253 (by decide) ⟨by omega, by omega⟩ rfl (fun c59 => ?_) (fun c59 => ?_)
        · have c59 : ¬ (c0 : Int) = 0 := c59
          refine hr_il C 4 dX12_unit_261 rfl rfl ?_
          refine hr_il C 0 dX12_unit_263 rfl rfl ?_
          refine hr_cV (As := [zv (c0), zv (0)]) (rest := []) C (h_emit h r (c0) (0) hr0 ⟨by omega, by omega⟩ ⟨by omega, by omega⟩) ⟨by decide, by decide⟩ iV_X12_emit g_X12_335 TM0 hr0 dX12_unit_265 rfl rfl (Nat.le_of_ble_eq_true rfl) rfl ⟨rfl, by rw [sm_f o39 o44 s46 (by decide)]; rw [e41, if_neg (by omega)]; rw [e33, if_neg (by omega)]; rw [sm_f how o2 s4 (by decide)]; omega⟩ (fun w60 rv o61 q62 => ?_)
          obtain ⟨s63, rfl, e64, e65⟩ := q62
          refine hr_norm (st' := []) rfl ?_
          refine hr_ic C dX12_unit_268 rfl ?_
          exact hr_zret C hlocks hr (by omega) dX12_unit_269 ⟨(fx_sm_tr (fx_sm_tr (fx_sm_tr (fx_sm_tr (fx_sm_tr sm s4 (by decide)) s32 (by decide)) s40 (by decide)) s46 (by decide)) s63 (by decide)), ⟨_, rfl, by omega, by show EI _ f 1; exact EI_unit (c := c0) ei (by rw [e64]; rw [sm_f o39 o44 s46 (by decide)]; rw [e41, if_neg (by omega)]; rw [e33, if_neg (by omega)]; rw [sm_f how o2 s4 (by decide)]) (by rw [sm_f o44 o61 s63 (by decide)]; rw [sm_f o39 o44 s46 (by decide)]; rw [e41, if_neg (by omega)]; rw [e33, if_neg (by omega)]; rw [sm_f how o2 s4 (by decide)]) (by rw [sm_f o44 o61 s63 (by decide)]; rw [sm_f o39 o44 s46 (by decide)]; rw [e41, if_neg (by omega)]; rw [e33, if_neg (by omega)]; rw [sm_f how o2 s4 (by decide)]) (by rw [sm_f o44 o61 s63 (by decide)]; rw [sm_f o39 o44 s46 (by decide)]; rw [e41, if_pos ⟨rfl, rfl⟩]) (by omega) ⟨by omega, by omega⟩ (fun j => by rw [e65]; rw [show vi w43 0 36 = vi w 0 36 from by rw [sm_f o39 o44 s46 (by decide)]; rw [e41, if_neg (by omega)]; rw [e33, if_neg (by omega)]; rw [sm_f how o2 s4 (by decide)]]; rw [show vi w43 21 j = vi w 21 j from by rw [sm_a o39 o44 s46 TMa_21 (by decide)]; rw [e41, if_neg (by omega)]; rw [e33, if_neg (by omega)]; rw [sm_a how o2 s4 TMa_21 (by decide)]]) (fun j => by rw [sm_a o44 o61 s63 TMa_23 (by decide)]; rw [sm_a o39 o44 s46 TMa_23 (by decide)]; rw [e41, if_neg (by omega)]; rw [e33, if_neg (by omega)]; rw [sm_a how o2 s4 TMa_23 (by decide)]) (fun j => by rw [sm_a o44 o61 s63 TMa_24 (by decide)]; rw [sm_a o39 o44 s46 TMa_24 (by decide)]; rw [e41, if_neg (by omega)]; rw [e33, if_neg (by omega)]; rw [sm_a how o2 s4 TMa_24 (by decide)]), by have : vi w60 0 4 = vi w 0 4 := (by rw [sm_f o44 o61 s63 (by decide)]; rw [sm_f o39 o44 s46 (by decide)]; rw [e41, if_neg (by omega)]; rw [e33, if_neg (by omega)]; rw [sm_f how o2 s4 (by decide)]); have : vi w43 0 4 = vi w 0 4 := (by rw [sm_f o39 o44 s46 (by decide)]; rw [e41, if_neg (by omega)]; rw [e33, if_neg (by omega)]; rw [sm_f how o2 s4 (by decide)]); have : vi w38 0 4 = vi w 0 4 := (by rw [e41, if_neg (by omega)]; rw [e33, if_neg (by omega)]; rw [sm_f how o2 s4 (by decide)]); have : vi w30 0 4 = vi w 0 4 := (by rw [e33, if_neg (by omega)]; rw [sm_f how o2 s4 (by decide)]); have : vi w1 0 4 = vi w 0 4 := (by rw [sm_f how o2 s4 (by decide)]); have : vi w60 0 39 = (vi w 0 39) + 1 := (by rw [sm_f o44 o61 s63 (by decide)]; rw [sm_f o39 o44 s46 (by decide)]; rw [e41, if_pos ⟨rfl, rfl⟩]); have : vi w60 0 37 = vi w 0 37 := (by rw [sm_f o44 o61 s63 (by decide)]; rw [sm_f o39 o44 s46 (by decide)]; rw [e41, if_neg (by omega)]; rw [e33, if_neg (by omega)]; rw [sm_f how o2 s4 (by decide)]); omega⟩, (by rw [sm_f o44 o61 s63 (by decide)]; omega), fun j hj => by have q : vi w60 21 j = if j = (vi w 0 36).toNat then c0 else vi w 21 j := (by rw [e65]; rw [show vi w43 0 36 = vi w 0 36 from by rw [sm_f o39 o44 s46 (by decide)]; rw [e41, if_neg (by omega)]; rw [e33, if_neg (by omega)]; rw [sm_f how o2 s4 (by decide)]]; rw [show vi w43 21 j = vi w 21 j from by rw [sm_a o39 o44 s46 TMa_21 (by decide)]; rw [e41, if_neg (by omega)]; rw [e33, if_neg (by omega)]; rw [sm_a how o2 s4 TMa_21 (by decide)]]); rw [q, if_neg (by omega)]; exact hx3 j⟩
        · have c59 : (c0 : Int) = 0 := c59
          refine hr_bi C dX12_unit_256 (by decide +kernel) rfl ?_
          refine hr_goto C 263 dX12_unit_258 (by decide) ?_
          refine hr_il C 0 dX12_unit_263 rfl rfl ?_
          refine hr_cV (As := [zv (110), zv (0)]) (rest := []) C (h_emit h r (110) (0) hr0 ⟨by omega, by omega⟩ ⟨by omega, by omega⟩) ⟨by decide, by decide⟩ iV_X12_emit g_X12_335 TM0 hr0 dX12_unit_265 rfl rfl (Nat.le_of_ble_eq_true rfl) rfl ⟨rfl, by rw [sm_f o39 o44 s46 (by decide)]; rw [e41, if_neg (by omega)]; rw [e33, if_neg (by omega)]; rw [sm_f how o2 s4 (by decide)]; omega⟩ (fun w66 rv o67 q68 => ?_)
          obtain ⟨s69, rfl, e70, e71⟩ := q68
          refine hr_norm (st' := []) rfl ?_
          refine hr_ic C dX12_unit_268 rfl ?_
          exact hr_zret C hlocks hr (by omega) dX12_unit_269 ⟨(fx_sm_tr (fx_sm_tr (fx_sm_tr (fx_sm_tr (fx_sm_tr sm s4 (by decide)) s32 (by decide)) s40 (by decide)) s46 (by decide)) s69 (by decide)), ⟨_, rfl, by omega, by show EI _ f 1; exact EI_unit (c := 110) ei (by rw [e70]; rw [sm_f o39 o44 s46 (by decide)]; rw [e41, if_neg (by omega)]; rw [e33, if_neg (by omega)]; rw [sm_f how o2 s4 (by decide)]) (by rw [sm_f o44 o67 s69 (by decide)]; rw [sm_f o39 o44 s46 (by decide)]; rw [e41, if_neg (by omega)]; rw [e33, if_neg (by omega)]; rw [sm_f how o2 s4 (by decide)]) (by rw [sm_f o44 o67 s69 (by decide)]; rw [sm_f o39 o44 s46 (by decide)]; rw [e41, if_neg (by omega)]; rw [e33, if_neg (by omega)]; rw [sm_f how o2 s4 (by decide)]) (by rw [sm_f o44 o67 s69 (by decide)]; rw [sm_f o39 o44 s46 (by decide)]; rw [e41, if_pos ⟨rfl, rfl⟩]) (by omega) ⟨by omega, by omega⟩ (fun j => by rw [e71]; rw [show vi w43 0 36 = vi w 0 36 from by rw [sm_f o39 o44 s46 (by decide)]; rw [e41, if_neg (by omega)]; rw [e33, if_neg (by omega)]; rw [sm_f how o2 s4 (by decide)]]; rw [show vi w43 21 j = vi w 21 j from by rw [sm_a o39 o44 s46 TMa_21 (by decide)]; rw [e41, if_neg (by omega)]; rw [e33, if_neg (by omega)]; rw [sm_a how o2 s4 TMa_21 (by decide)]]) (fun j => by rw [sm_a o44 o67 s69 TMa_23 (by decide)]; rw [sm_a o39 o44 s46 TMa_23 (by decide)]; rw [e41, if_neg (by omega)]; rw [e33, if_neg (by omega)]; rw [sm_a how o2 s4 TMa_23 (by decide)]) (fun j => by rw [sm_a o44 o67 s69 TMa_24 (by decide)]; rw [sm_a o39 o44 s46 TMa_24 (by decide)]; rw [e41, if_neg (by omega)]; rw [e33, if_neg (by omega)]; rw [sm_a how o2 s4 TMa_24 (by decide)]), by have : vi w66 0 4 = vi w 0 4 := (by rw [sm_f o44 o67 s69 (by decide)]; rw [sm_f o39 o44 s46 (by decide)]; rw [e41, if_neg (by omega)]; rw [e33, if_neg (by omega)]; rw [sm_f how o2 s4 (by decide)]); have : vi w43 0 4 = vi w 0 4 := (by rw [sm_f o39 o44 s46 (by decide)]; rw [e41, if_neg (by omega)]; rw [e33, if_neg (by omega)]; rw [sm_f how o2 s4 (by decide)]); have : vi w38 0 4 = vi w 0 4 := (by rw [e41, if_neg (by omega)]; rw [e33, if_neg (by omega)]; rw [sm_f how o2 s4 (by decide)]); have : vi w30 0 4 = vi w 0 4 := (by rw [e33, if_neg (by omega)]; rw [sm_f how o2 s4 (by decide)]); have : vi w1 0 4 = vi w 0 4 := (by rw [sm_f how o2 s4 (by decide)]); have : vi w66 0 39 = (vi w 0 39) + 1 := (by rw [sm_f o44 o67 s69 (by decide)]; rw [sm_f o39 o44 s46 (by decide)]; rw [e41, if_pos ⟨rfl, rfl⟩]); have : vi w66 0 37 = vi w 0 37 := (by rw [sm_f o44 o67 s69 (by decide)]; rw [sm_f o39 o44 s46 (by decide)]; rw [e41, if_neg (by omega)]; rw [e33, if_neg (by omega)]; rw [sm_f how o2 s4 (by decide)]); omega⟩, (by rw [sm_f o44 o67 s69 (by decide)]; omega), fun j hj => by have q : vi w66 21 j = if j = (vi w 0 36).toNat then 110 else vi w 21 j := (by rw [e71]; rw [show vi w43 0 36 = vi w 0 36 from by rw [sm_f o39 o44 s46 (by decide)]; rw [e41, if_neg (by omega)]; rw [e33, if_neg (by omega)]; rw [sm_f how o2 s4 (by decide)]]; rw [show vi w43 21 j = vi w 21 j from by rw [sm_a o39 o44 s46 TMa_21 (by decide)]; rw [e41, if_neg (by omega)]; rw [e33, if_neg (by omega)]; rw [sm_a how o2 s4 TMa_21 (by decide)]]); rw [q, if_neg (by omega)]; exact hx3 j⟩
      · have c42 : (c0 : Int) = 0 := c42
        refine hr_aln C 0 dX12_unit_200 rfl rfl rfl ?_
        refine hr_gI (lo := -2147483648) (hi := 2147483647) C hr0 TM0 rfl fl_X12_231 dX12_unit_201 rfl (fun b72 b73 => ?_)
        have q74 : vi w38 0 9 = vi w 0 9 := by rw [e41, if_neg (by omega)]; rw [e33, if_neg (by omega)]; rw [sm_f how o2 s4 (by decide)]
        rw [q74] at b72 b73 ⊢
        refine hr_goto C 208 dX12_unit_204 (by decide) ?_
        refine hr_is (lv' := [(6, zv (vi w 0 9)), (0, .ref r), (2, zv (0)), (3, zv (0)), (4, zv (c0))]) C dX12_unit_208 (by decide) rfl rfl ?_
        have h7 : vi w38 0 7 = vi w 0 7 := by rw [e41, if_neg (by omega)]; rw [e33, if_neg (by omega)]; rw [sm_f how o2 s4 (by decide)]
        have h7b := fl_b (fi := 7) (lo := 0) (hi := 1601) how hr0 rfl
        refine hr_aln C 1 dX12_unit_210 rfl rfl rfl ?_
        refine hr_cV (As := []) (rest := []) C (hM_fx (km292 h)) ⟨by decide, by decide⟩ iV_X12_goOn g_X12_245 TM0 hr0 dX12_unit_211 rfl rfl (Nat.le_of_ble_eq_true rfl) rfl ⟨(ty_cons (ok_r hr0 (by decide) (by decide)) ty_nil), (fs_f o39 hr0 rfl ⟨_, _, rfl⟩ (by omega) (by omega))⟩ (fun w75 rv o76 q77 => ?_)
        obtain ⟨s78, po, hpo79, hrv80, hty81, rt, hfs82⟩ := q77
        replace s78 : fx_sm (gsM, TM, cy, fun _ => True) [(12, 6), (12, 7), (12, 8), (12, 9), (12, 10)] w38 w75 := s78
        simp only [km292_c, List.mem_cons, List.not_mem_nil, or_false] at hpo79
        subst hpo79
        obtain rfl := hrv80
        obtain ⟨⟨_, u83⟩, av84, g85, u86⟩ := fs_u (v0 := .ref r) rfl hfs82
        have hf87 := fs_t hnd o76 hr0 rfl u83
        have hf88 := fs_t hnd o76 hr0 g85 u86
        refine hr_norm (st' := []) rfl ?_
        refine hr_iln C 2 dX12_unit_214 rfl rfl rfl ?_
        refine hr_if C 222 dX12_unit_215 (by decide) ⟨by omega, by omega⟩ rfl (fun c89 => absurd (show ¬ (0 : Int) = 0 from c89) (by omega)) (fun c89 => ?_)
        have c89 : (0 : Int) = 0 := c89
        refine hr_iln C 3 dX12_unit_218 rfl rfl rfl ?_
        refine hr_if C 250 dX12_unit_219 (by decide) ⟨by omega, by omega⟩ rfl (fun c90 => ?_) (fun c90 => absurd (show ¬ (0 : Int) = 0 from c90) (by omega))
        have c90 : (0 : Int) = 0 := c90
        refine hr_aln C 1 dX12_unit_250 rfl rfl rfl ?_
        refine hr_il C 4 dX12_unit_251 rfl rfl ?_
        refine hr_if C 261 dX12_unit_253 (by decide) ⟨by omega, by omega⟩ rfl (fun c91 => ?_) (fun c91 => ?_)
        · have c91 : ¬ (c0 : Int) = 0 := c91
          refine hr_il C 4 dX12_unit_261 rfl rfl ?_
          refine hr_il C 0 dX12_unit_263 rfl rfl ?_
          refine hr_cV (As := [zv (c0), zv (vi w 0 9)]) (rest := []) C (h_emit h r (c0) (vi w 0 9) hr0 ⟨by omega, by omega⟩ ⟨by omega, by omega⟩) ⟨by decide, by decide⟩ iV_X12_emit g_X12_335 TM0 hr0 dX12_unit_265 rfl rfl (Nat.le_of_ble_eq_true rfl) rfl ⟨rfl, by rw [sm_f o39 o76 s78 (by decide)]; rw [e41, if_neg (by omega)]; rw [e33, if_neg (by omega)]; rw [sm_f how o2 s4 (by decide)]; omega⟩ (fun w92 rv o93 q94 => ?_)
          obtain ⟨s95, rfl, e96, e97⟩ := q94
          refine hr_norm (st' := []) rfl ?_
          refine hr_ic C dX12_unit_268 rfl ?_
          exact hr_zret C hlocks hr (by omega) dX12_unit_269 ⟨(fx_sm_tr (fx_sm_tr (fx_sm_tr (fx_sm_tr (fx_sm_tr sm s4 (by decide)) s32 (by decide)) s40 (by decide)) s78 (by decide)) s95 (by decide)), ⟨_, rfl, by omega, by show EI _ f 1; exact EI_unit (c := c0) ei (by rw [e96]; rw [sm_f o39 o76 s78 (by decide)]; rw [e41, if_neg (by omega)]; rw [e33, if_neg (by omega)]; rw [sm_f how o2 s4 (by decide)]) (by rw [sm_f o76 o93 s95 (by decide)]; rw [sm_f o39 o76 s78 (by decide)]; rw [e41, if_neg (by omega)]; rw [e33, if_neg (by omega)]; rw [sm_f how o2 s4 (by decide)]) (by rw [sm_f o76 o93 s95 (by decide)]; rw [sm_f o39 o76 s78 (by decide)]; rw [e41, if_neg (by omega)]; rw [e33, if_neg (by omega)]; rw [sm_f how o2 s4 (by decide)]) (by rw [sm_f o76 o93 s95 (by decide)]; rw [sm_f o39 o76 s78 (by decide)]; rw [e41, if_pos ⟨rfl, rfl⟩]) (by omega) ⟨by omega, by omega⟩ (fun j => by rw [e97]; rw [show vi w75 0 36 = vi w 0 36 from by rw [sm_f o39 o76 s78 (by decide)]; rw [e41, if_neg (by omega)]; rw [e33, if_neg (by omega)]; rw [sm_f how o2 s4 (by decide)]]; rw [show vi w75 21 j = vi w 21 j from by rw [sm_a o39 o76 s78 TMa_21 (by decide)]; rw [e41, if_neg (by omega)]; rw [e33, if_neg (by omega)]; rw [sm_a how o2 s4 TMa_21 (by decide)]]) (fun j => by rw [sm_a o76 o93 s95 TMa_23 (by decide)]; rw [sm_a o39 o76 s78 TMa_23 (by decide)]; rw [e41, if_neg (by omega)]; rw [e33, if_neg (by omega)]; rw [sm_a how o2 s4 TMa_23 (by decide)]) (fun j => by rw [sm_a o76 o93 s95 TMa_24 (by decide)]; rw [sm_a o39 o76 s78 TMa_24 (by decide)]; rw [e41, if_neg (by omega)]; rw [e33, if_neg (by omega)]; rw [sm_a how o2 s4 TMa_24 (by decide)]), by have : vi w92 0 4 = vi w 0 4 := (by rw [sm_f o76 o93 s95 (by decide)]; rw [sm_f o39 o76 s78 (by decide)]; rw [e41, if_neg (by omega)]; rw [e33, if_neg (by omega)]; rw [sm_f how o2 s4 (by decide)]); have : vi w75 0 4 = vi w 0 4 := (by rw [sm_f o39 o76 s78 (by decide)]; rw [e41, if_neg (by omega)]; rw [e33, if_neg (by omega)]; rw [sm_f how o2 s4 (by decide)]); have : vi w38 0 4 = vi w 0 4 := (by rw [e41, if_neg (by omega)]; rw [e33, if_neg (by omega)]; rw [sm_f how o2 s4 (by decide)]); have : vi w30 0 4 = vi w 0 4 := (by rw [e33, if_neg (by omega)]; rw [sm_f how o2 s4 (by decide)]); have : vi w1 0 4 = vi w 0 4 := (by rw [sm_f how o2 s4 (by decide)]); have : vi w92 0 39 = (vi w 0 39) + 1 := (by rw [sm_f o76 o93 s95 (by decide)]; rw [sm_f o39 o76 s78 (by decide)]; rw [e41, if_pos ⟨rfl, rfl⟩]); have : vi w92 0 37 = vi w 0 37 := (by rw [sm_f o76 o93 s95 (by decide)]; rw [sm_f o39 o76 s78 (by decide)]; rw [e41, if_neg (by omega)]; rw [e33, if_neg (by omega)]; rw [sm_f how o2 s4 (by decide)]); omega⟩, (by rw [sm_f o76 o93 s95 (by decide)]; omega), fun j hj => by have q : vi w92 21 j = if j = (vi w 0 36).toNat then c0 else vi w 21 j := (by rw [e97]; rw [show vi w75 0 36 = vi w 0 36 from by rw [sm_f o39 o76 s78 (by decide)]; rw [e41, if_neg (by omega)]; rw [e33, if_neg (by omega)]; rw [sm_f how o2 s4 (by decide)]]; rw [show vi w75 21 j = vi w 21 j from by rw [sm_a o39 o76 s78 TMa_21 (by decide)]; rw [e41, if_neg (by omega)]; rw [e33, if_neg (by omega)]; rw [sm_a how o2 s4 TMa_21 (by decide)]]); rw [q, if_neg (by omega)]; exact hx3 j⟩
        · have c91 : (c0 : Int) = 0 := c91
          refine hr_bi C dX12_unit_256 (by decide +kernel) rfl ?_
          refine hr_goto C 263 dX12_unit_258 (by decide) ?_
          refine hr_il C 0 dX12_unit_263 rfl rfl ?_
          refine hr_cV (As := [zv (110), zv (vi w 0 9)]) (rest := []) C (h_emit h r (110) (vi w 0 9) hr0 ⟨by omega, by omega⟩ ⟨by omega, by omega⟩) ⟨by decide, by decide⟩ iV_X12_emit g_X12_335 TM0 hr0 dX12_unit_265 rfl rfl (Nat.le_of_ble_eq_true rfl) rfl ⟨rfl, by rw [sm_f o39 o76 s78 (by decide)]; rw [e41, if_neg (by omega)]; rw [e33, if_neg (by omega)]; rw [sm_f how o2 s4 (by decide)]; omega⟩ (fun w98 rv o99 q100 => ?_)
          obtain ⟨s101, rfl, e102, e103⟩ := q100
          refine hr_norm (st' := []) rfl ?_
          refine hr_ic C dX12_unit_268 rfl ?_
          exact hr_zret C hlocks hr (by omega) dX12_unit_269 ⟨(fx_sm_tr (fx_sm_tr (fx_sm_tr (fx_sm_tr (fx_sm_tr sm s4 (by decide)) s32 (by decide)) s40 (by decide)) s78 (by decide)) s101 (by decide)), ⟨_, rfl, by omega, by show EI _ f 1; exact EI_unit (c := 110) ei (by rw [e102]; rw [sm_f o39 o76 s78 (by decide)]; rw [e41, if_neg (by omega)]; rw [e33, if_neg (by omega)]; rw [sm_f how o2 s4 (by decide)]) (by rw [sm_f o76 o99 s101 (by decide)]; rw [sm_f o39 o76 s78 (by decide)]; rw [e41, if_neg (by omega)]; rw [e33, if_neg (by omega)]; rw [sm_f how o2 s4 (by decide)]) (by rw [sm_f o76 o99 s101 (by decide)]; rw [sm_f o39 o76 s78 (by decide)]; rw [e41, if_neg (by omega)]; rw [e33, if_neg (by omega)]; rw [sm_f how o2 s4 (by decide)]) (by rw [sm_f o76 o99 s101 (by decide)]; rw [sm_f o39 o76 s78 (by decide)]; rw [e41, if_pos ⟨rfl, rfl⟩]) (by omega) ⟨by omega, by omega⟩ (fun j => by rw [e103]; rw [show vi w75 0 36 = vi w 0 36 from by rw [sm_f o39 o76 s78 (by decide)]; rw [e41, if_neg (by omega)]; rw [e33, if_neg (by omega)]; rw [sm_f how o2 s4 (by decide)]]; rw [show vi w75 21 j = vi w 21 j from by rw [sm_a o39 o76 s78 TMa_21 (by decide)]; rw [e41, if_neg (by omega)]; rw [e33, if_neg (by omega)]; rw [sm_a how o2 s4 TMa_21 (by decide)]]) (fun j => by rw [sm_a o76 o99 s101 TMa_23 (by decide)]; rw [sm_a o39 o76 s78 TMa_23 (by decide)]; rw [e41, if_neg (by omega)]; rw [e33, if_neg (by omega)]; rw [sm_a how o2 s4 TMa_23 (by decide)]) (fun j => by rw [sm_a o76 o99 s101 TMa_24 (by decide)]; rw [sm_a o39 o76 s78 TMa_24 (by decide)]; rw [e41, if_neg (by omega)]; rw [e33, if_neg (by omega)]; rw [sm_a how o2 s4 TMa_24 (by decide)]), by have : vi w98 0 4 = vi w 0 4 := (by rw [sm_f o76 o99 s101 (by decide)]; rw [sm_f o39 o76 s78 (by decide)]; rw [e41, if_neg (by omega)]; rw [e33, if_neg (by omega)]; rw [sm_f how o2 s4 (by decide)]); have : vi w75 0 4 = vi w 0 4 := (by rw [sm_f o39 o76 s78 (by decide)]; rw [e41, if_neg (by omega)]; rw [e33, if_neg (by omega)]; rw [sm_f how o2 s4 (by decide)]); have : vi w38 0 4 = vi w 0 4 := (by rw [e41, if_neg (by omega)]; rw [e33, if_neg (by omega)]; rw [sm_f how o2 s4 (by decide)]); have : vi w30 0 4 = vi w 0 4 := (by rw [e33, if_neg (by omega)]; rw [sm_f how o2 s4 (by decide)]); have : vi w1 0 4 = vi w 0 4 := (by rw [sm_f how o2 s4 (by decide)]); have : vi w98 0 39 = (vi w 0 39) + 1 := (by rw [sm_f o76 o99 s101 (by decide)]; rw [sm_f o39 o76 s78 (by decide)]; rw [e41, if_pos ⟨rfl, rfl⟩]); have : vi w98 0 37 = vi w 0 37 := (by rw [sm_f o76 o99 s101 (by decide)]; rw [sm_f o39 o76 s78 (by decide)]; rw [e41, if_neg (by omega)]; rw [e33, if_neg (by omega)]; rw [sm_f how o2 s4 (by decide)]); omega⟩, (by rw [sm_f o76 o99 s101 (by decide)]; omega), fun j hj => by have q : vi w98 21 j = if j = (vi w 0 36).toNat then 110 else vi w 21 j := (by rw [e103]; rw [show vi w75 0 36 = vi w 0 36 from by rw [sm_f o39 o76 s78 (by decide)]; rw [e41, if_neg (by omega)]; rw [e33, if_neg (by omega)]; rw [sm_f how o2 s4 (by decide)]]; rw [show vi w75 21 j = vi w 21 j from by rw [sm_a o39 o76 s78 TMa_21 (by decide)]; rw [e41, if_neg (by omega)]; rw [e33, if_neg (by omega)]; rw [sm_a how o2 s4 TMa_21 (by decide)]]); rw [q, if_neg (by omega)]; exact hx3 j⟩
    · obtain ⟨v104, rfl, hv105⟩ := hrv6
      obtain ⟨z106, rfl, b107, b108, b109⟩ := ok_iz hv105
      simp only [rg] at b109
      obtain rfl : z106 = 0 := by omega
      have hf110 := fs_t hnd o2 hr0 rfl hfs8
      refine hr_norm (st' := [zv (0)]) rfl ?_
      refine hr_if C 156 dX12_unit_151 (by decide) ⟨by omega, by omega⟩ rfl (fun c111 => absurd (show ¬ (0 : Int) = 0 from c111) (by omega)) (fun c111 => ?_)
      have c111 : (0 : Int) = 0 := c111
      refine hr_ic C dX12_unit_154 rfl ?_
      exact hr_zret C hlocks hr (by omega) dX12_unit_155 ⟨(fx_sm_tr sm s4 (by decide)), ⟨_, rfl, by omega, by show EI _ f 0; exact EI_congr (by rw [sm_f how o2 s4 (by decide)]) (by rw [sm_f how o2 s4 (by decide)]) (by rw [sm_f how o2 s4 (by decide)]) (by rw [sm_f how o2 s4 (by decide)]) (fun j => by rw [sm_a how o2 s4 TMa_21 (by decide)]) (fun j => by rw [sm_a how o2 s4 TMa_23 (by decide)]) (fun j => by rw [sm_a how o2 s4 TMa_24 (by decide)]) ei, by have : vi w1 0 4 = vi w 0 4 := (by rw [sm_f how o2 s4 (by decide)]); have : vi w1 0 39 = vi w 0 39 := (by rw [sm_f how o2 s4 (by decide)]); have : vi w1 0 37 = vi w 0 37 := (by rw [sm_f how o2 s4 (by decide)]); omega⟩, (by rw [sm_f how o2 s4 (by decide)]; omega), fun j _ => (show vi w1 21 j = vi w 21 j from by rw [sm_a how o2 s4 TMa_21 (by decide)]).trans (hx3 j)⟩
  have k100 : ∀ (w : va_W) (bb2 bb3 c0 bb5 : Int), fx_wo (gsM, TM, cy, fun _ => True) ad w → fx_sm (gsM, TM, cy, fun _ => True) [(12, 4), (12, 5), (12, 6), (12, 7), (12, 8), (12, 9), (12, 10), (12, 36), (12, 37), (12, 38), (12, 39), (1000, 6), (1000, 21), (1000, 22), (1000, 23), (1000, 24)] ws w → EI w f 0 → vi w 0 7 ≤ 1600 → (vi w 0 39 = vi ws 0 39 ∧ vi w 0 37 = vi ws 0 37 ∧ ∀ j, vi w 21 j = vi ws 21 j) → (bb2 = 0 ∨ bb2 = 1) → (bb3 = 0 ∨ bb3 = 1) → (c0 = 0 ∨ (97 ≤ c0 ∧ c0 ≤ 122)) → (bb5 = 0 ∨ bb5 = 1) → (bb5 = 0 → ¬ vi w 0 39 = 30) → HW l E ad D cy (va_A ws s.heap.size) s.heap p e ({ frames := 2, cells := 0, slots := 0, locals := 44 }) s m ([.ref r]).toArray below meth c (MQ below (hQ ad D cy (fun _ ws rv ws1 => fx_sm (gsM, TM, cy, fun _ => True) [(12, 4), (12, 5), (12, 6), (12, 7), (12, 8), (12, 9), (12, 10), (12, 36), (12, 37), (12, 38), (12, 39), (1000, 6), (1000, 21), (1000, 22), (1000, 23), (1000, 24)] ws ws1 ∧ (∃ z, rv = some (zv z) ∧ (z = 0 ∨ z = 1) ∧ EI ws1 f (1 - z) ∧ (1 ≤ vi ws1 0 4 ∨ (z = 1 ∧ vi ws1 0 39 = vi ws 0 39 ∧ vi ws1 0 37 = vi ws 0 37 + 1) ∨ vi ws1 0 39 = vi ws 0 39 + 1)) ∧ vi ws1 0 7 ≤ 1600 ∧ FRc ws ws1 f) ([.ref r]) ws s.heap.size) ([.ref r]).toArray s 0 0 (va_A ws s.heap.size)) cX12_unit 7 yX12_unit.cls 100 [(0, .ref r), (2, zv bb2), (3, zv bb3), (4, zv c0), (5, zv bb5)] [] w := by
    intro w bb2 bb3 c0 bb5 how sm ei he ⟨hx1, hx2, hx3⟩ hb2 hb3 hc hb5 h30
    refine hr_iln C 1 dX12_unit_100 rfl rfl rfl ?_
    refine hr_if C 126 dX12_unit_101 (by decide) ⟨by omega, by omega⟩ rfl (fun c1 => ?_) (fun c1 => ?_)
    · have c1 : ¬ (bb2 : Int) = 0 := c1
      refine hr_iln C 1 dX12_unit_126 rfl rfl rfl ?_
      refine hr_if C 134 dX12_unit_127 (by decide) ⟨by omega, by omega⟩ rfl (fun c2 => ?_) (fun c2 => ?_)
      · have c2 : ¬ (bb2 : Int) = 0 := c2
        refine hr_aln C 0 dX12_unit_134 rfl rfl rfl ?_
        refine hr_gI (lo := -2147483648) (hi := 2147483647) C hr0 TM0 rfl fl_X12_320 dX12_unit_135 rfl (fun b3 b4 => ?_)
        refine hr_bi C dX12_unit_138 (by decide +kernel) rfl ?_
        refine hr_cmp C 147 dX12_unit_140 (by decide) ⟨by omega, by omega⟩ ⟨by omega, by omega⟩ rfl (fun c5 => ?_) (fun c5 => ?_)
        · have c5 : ¬ (vi w 0 37 : Int) = 7 := c5
          rcases hb2 with rfl | rfl
          · rcases hb3 with rfl | rfl
            · refine hr_pick (lv' := [(0, .ref r), (2, zv 0), (3, zv 0), (4, zv (c0))]) [0, 1, 2, 3] rfl ?_
              exact k147_00 _ _ how sm ei (by omega) ⟨by have : vi w 0 39 = vi w 0 39 := rfl; omega, by have : vi w 0 37 = vi w 0 37 := rfl; omega, fun j => (show vi w 21 j = vi w 21 j from rfl).trans (hx3 j)⟩ hc (by omega)
            · refine hr_pick (lv' := [(0, .ref r), (2, zv 0), (3, zv 1), (4, zv (c0))]) [0, 1, 2, 3] rfl ?_
              exact k147_01 _ _ how sm ei (by omega) ⟨by have : vi w 0 39 = vi w 0 39 := rfl; omega, by have : vi w 0 37 = vi w 0 37 := rfl; omega, fun j => (show vi w 21 j = vi w 21 j from rfl).trans (hx3 j)⟩ hc (by omega)
          · refine hr_pick (lv' := [(0, .ref r), (2, zv 1), (4, zv (c0))]) [0, 1, 3] rfl ?_
            exact k147_1 _ _ how sm ei (by omega) ⟨by have : vi w 0 39 = vi w 0 39 := rfl; omega, by have : vi w 0 37 = vi w 0 37 := rfl; omega, fun j => (show vi w 21 j = vi w 21 j from rfl).trans (hx3 j)⟩ hc (by omega)
        · have c5 : (vi w 0 37 : Int) = 7 := c5
          refine hr_aln C 0 dX12_unit_143 rfl rfl rfl ?_
          refine hr_cV (As := []) (rest := []) C (hM_fx (km295 h)) ⟨by decide, by decide⟩ iV_X12_misplaced g_X12_248 TM0 hr0 dX12_unit_144 rfl rfl (Nat.le_of_ble_eq_true rfl) rfl ⟨(ty_cons (ok_r hr0 (by decide) (by decide)) ty_nil), ⟨_, rfl⟩⟩ (fun w6 rv o7 q8 => ?_)
          obtain ⟨s9, po, hpo10, hrv11, hty12, rt, hfs13⟩ := q8
          replace s9 : fx_sm (gsM, TM, cy, fun _ => True) [(12, 4), (12, 5)] w w6 := s9
          simp only [km295_c, List.mem_cons, List.not_mem_nil, or_false] at hpo10
          subst hpo10
          obtain rfl := hrv11
          have hf14 := fs_t hnd o7 hr0 rfl hfs13
          refine hr_norm (st' := []) rfl ?_
          rcases hb2 with rfl | rfl
          · rcases hb3 with rfl | rfl
            · refine hr_pick (lv' := [(0, .ref r), (2, zv 0), (3, zv 0), (4, zv (c0))]) [0, 1, 2, 3] rfl ?_
              exact k147_00 _ _ o7 (fx_sm_tr sm s9 (by decide)) (EI_fr how o7 s9 (by decide) ei) (by rw [sm_f how o7 s9 (by decide)]; omega) ⟨by have : vi w6 0 39 = vi w 0 39 := (by rw [sm_f how o7 s9 (by decide)]); omega, by have : vi w6 0 37 = vi w 0 37 := (by rw [sm_f how o7 s9 (by decide)]); omega, fun j => (show vi w6 21 j = vi w 21 j from by rw [sm_a how o7 s9 TMa_21 (by decide)]).trans (hx3 j)⟩ hc (by omega)
            · refine hr_pick (lv' := [(0, .ref r), (2, zv 0), (3, zv 1), (4, zv (c0))]) [0, 1, 2, 3] rfl ?_
              exact k147_01 _ _ o7 (fx_sm_tr sm s9 (by decide)) (EI_fr how o7 s9 (by decide) ei) (by rw [sm_f how o7 s9 (by decide)]; omega) ⟨by have : vi w6 0 39 = vi w 0 39 := (by rw [sm_f how o7 s9 (by decide)]); omega, by have : vi w6 0 37 = vi w 0 37 := (by rw [sm_f how o7 s9 (by decide)]); omega, fun j => (show vi w6 21 j = vi w 21 j from by rw [sm_a how o7 s9 TMa_21 (by decide)]).trans (hx3 j)⟩ hc (by omega)
          · refine hr_pick (lv' := [(0, .ref r), (2, zv 1), (4, zv (c0))]) [0, 1, 3] rfl ?_
            exact k147_1 _ _ o7 (fx_sm_tr sm s9 (by decide)) (EI_fr how o7 s9 (by decide) ei) (by rw [sm_f how o7 s9 (by decide)]; omega) ⟨by have : vi w6 0 39 = vi w 0 39 := (by rw [sm_f how o7 s9 (by decide)]); omega, by have : vi w6 0 37 = vi w 0 37 := (by rw [sm_f how o7 s9 (by decide)]); omega, fun j => (show vi w6 21 j = vi w 21 j from by rw [sm_a how o7 s9 TMa_21 (by decide)]).trans (hx3 j)⟩ hc (by omega)
      · have c2 : (bb2 : Int) = 0 := c2
        refine hr_iln C 2 dX12_unit_130 rfl rfl rfl ?_
        refine hr_if C 147 dX12_unit_131 (by decide) ⟨by omega, by omega⟩ rfl (fun c15 => ?_) (fun c15 => ?_)
        · have c15 : (bb3 : Int) = 0 := c15
          rcases hb2 with rfl | rfl
          · rcases hb3 with rfl | rfl
            · refine hr_pick (lv' := [(0, .ref r), (2, zv 0), (3, zv 0), (4, zv (c0))]) [0, 1, 2, 3] rfl ?_
              exact k147_00 _ _ how sm ei (by omega) ⟨by have : vi w 0 39 = vi w 0 39 := rfl; omega, by have : vi w 0 37 = vi w 0 37 := rfl; omega, fun j => (show vi w 21 j = vi w 21 j from rfl).trans (hx3 j)⟩ hc (by omega)
            · refine hr_pick (lv' := [(0, .ref r), (2, zv 0), (3, zv 1), (4, zv (c0))]) [0, 1, 2, 3] rfl ?_
              exact k147_01 _ _ how sm ei (by omega) ⟨by have : vi w 0 39 = vi w 0 39 := rfl; omega, by have : vi w 0 37 = vi w 0 37 := rfl; omega, fun j => (show vi w 21 j = vi w 21 j from rfl).trans (hx3 j)⟩ hc (by omega)
          · refine hr_pick (lv' := [(0, .ref r), (2, zv 1), (4, zv (c0))]) [0, 1, 3] rfl ?_
            exact k147_1 _ _ how sm ei (by omega) ⟨by have : vi w 0 39 = vi w 0 39 := rfl; omega, by have : vi w 0 37 = vi w 0 37 := rfl; omega, fun j => (show vi w 21 j = vi w 21 j from rfl).trans (hx3 j)⟩ hc (by omega)
        · have c15 : ¬ (bb3 : Int) = 0 := c15
          refine hr_aln C 0 dX12_unit_134 rfl rfl rfl ?_
          refine hr_gI (lo := -2147483648) (hi := 2147483647) C hr0 TM0 rfl fl_X12_320 dX12_unit_135 rfl (fun b16 b17 => ?_)
          refine hr_bi C dX12_unit_138 (by decide +kernel) rfl ?_
          refine hr_cmp C 147 dX12_unit_140 (by decide) ⟨by omega, by omega⟩ ⟨by omega, by omega⟩ rfl (fun c18 => ?_) (fun c18 => ?_)
          · have c18 : ¬ (vi w 0 37 : Int) = 7 := c18
            rcases hb2 with rfl | rfl
            · rcases hb3 with rfl | rfl
              · refine hr_pick (lv' := [(0, .ref r), (2, zv 0), (3, zv 0), (4, zv (c0))]) [0, 1, 2, 3] rfl ?_
                exact k147_00 _ _ how sm ei (by omega) ⟨by have : vi w 0 39 = vi w 0 39 := rfl; omega, by have : vi w 0 37 = vi w 0 37 := rfl; omega, fun j => (show vi w 21 j = vi w 21 j from rfl).trans (hx3 j)⟩ hc (by omega)
              · refine hr_pick (lv' := [(0, .ref r), (2, zv 0), (3, zv 1), (4, zv (c0))]) [0, 1, 2, 3] rfl ?_
                exact k147_01 _ _ how sm ei (by omega) ⟨by have : vi w 0 39 = vi w 0 39 := rfl; omega, by have : vi w 0 37 = vi w 0 37 := rfl; omega, fun j => (show vi w 21 j = vi w 21 j from rfl).trans (hx3 j)⟩ hc (by omega)
            · refine hr_pick (lv' := [(0, .ref r), (2, zv 1), (4, zv (c0))]) [0, 1, 3] rfl ?_
              exact k147_1 _ _ how sm ei (by omega) ⟨by have : vi w 0 39 = vi w 0 39 := rfl; omega, by have : vi w 0 37 = vi w 0 37 := rfl; omega, fun j => (show vi w 21 j = vi w 21 j from rfl).trans (hx3 j)⟩ hc (by omega)
          · have c18 : (vi w 0 37 : Int) = 7 := c18
            refine hr_aln C 0 dX12_unit_143 rfl rfl rfl ?_
            refine hr_cV (As := []) (rest := []) C (hM_fx (km295 h)) ⟨by decide, by decide⟩ iV_X12_misplaced g_X12_248 TM0 hr0 dX12_unit_144 rfl rfl (Nat.le_of_ble_eq_true rfl) rfl ⟨(ty_cons (ok_r hr0 (by decide) (by decide)) ty_nil), ⟨_, rfl⟩⟩ (fun w19 rv o20 q21 => ?_)
            obtain ⟨s22, po, hpo23, hrv24, hty25, rt, hfs26⟩ := q21
            replace s22 : fx_sm (gsM, TM, cy, fun _ => True) [(12, 4), (12, 5)] w w19 := s22
            simp only [km295_c, List.mem_cons, List.not_mem_nil, or_false] at hpo23
            subst hpo23
            obtain rfl := hrv24
            have hf27 := fs_t hnd o20 hr0 rfl hfs26
            refine hr_norm (st' := []) rfl ?_
            rcases hb2 with rfl | rfl
            · rcases hb3 with rfl | rfl
              · refine hr_pick (lv' := [(0, .ref r), (2, zv 0), (3, zv 0), (4, zv (c0))]) [0, 1, 2, 3] rfl ?_
                exact k147_00 _ _ o20 (fx_sm_tr sm s22 (by decide)) (EI_fr how o20 s22 (by decide) ei) (by rw [sm_f how o20 s22 (by decide)]; omega) ⟨by have : vi w19 0 39 = vi w 0 39 := (by rw [sm_f how o20 s22 (by decide)]); omega, by have : vi w19 0 37 = vi w 0 37 := (by rw [sm_f how o20 s22 (by decide)]); omega, fun j => (show vi w19 21 j = vi w 21 j from by rw [sm_a how o20 s22 TMa_21 (by decide)]).trans (hx3 j)⟩ hc (by omega)
              · refine hr_pick (lv' := [(0, .ref r), (2, zv 0), (3, zv 1), (4, zv (c0))]) [0, 1, 2, 3] rfl ?_
                exact k147_01 _ _ o20 (fx_sm_tr sm s22 (by decide)) (EI_fr how o20 s22 (by decide) ei) (by rw [sm_f how o20 s22 (by decide)]; omega) ⟨by have : vi w19 0 39 = vi w 0 39 := (by rw [sm_f how o20 s22 (by decide)]); omega, by have : vi w19 0 37 = vi w 0 37 := (by rw [sm_f how o20 s22 (by decide)]); omega, fun j => (show vi w19 21 j = vi w 21 j from by rw [sm_a how o20 s22 TMa_21 (by decide)]).trans (hx3 j)⟩ hc (by omega)
            · refine hr_pick (lv' := [(0, .ref r), (2, zv 1), (4, zv (c0))]) [0, 1, 3] rfl ?_
              exact k147_1 _ _ o20 (fx_sm_tr sm s22 (by decide)) (EI_fr how o20 s22 (by decide) ei) (by rw [sm_f how o20 s22 (by decide)]; omega) ⟨by have : vi w19 0 39 = vi w 0 39 := (by rw [sm_f how o20 s22 (by decide)]); omega, by have : vi w19 0 37 = vi w 0 37 := (by rw [sm_f how o20 s22 (by decide)]); omega, fun j => (show vi w19 21 j = vi w 21 j from by rw [sm_a how o20 s22 TMa_21 (by decide)]).trans (hx3 j)⟩ hc (by omega)
    · have c1 : (bb2 : Int) = 0 := c1
      refine hr_il C 3 dX12_unit_104 rfl rfl ?_
      refine hr_if C 121 dX12_unit_106 (by decide) ⟨by omega, by omega⟩ rfl (fun c28 => ?_) (fun c28 => ?_)
      · have c28 : ¬ (c0 : Int) = 0 := c28
        refine hr_il C 4 dX12_unit_121 rfl rfl ?_
        refine hr_if C 143 dX12_unit_123 (by decide) ⟨by omega, by omega⟩ rfl (fun c29 => ?_) (fun c29 => ?_)
        · have c29 : ¬ (bb5 : Int) = 0 := c29
          refine hr_aln C 0 dX12_unit_143 rfl rfl rfl ?_
          refine hr_cV (As := []) (rest := []) C (hM_fx (km295 h)) ⟨by decide, by decide⟩ iV_X12_misplaced g_X12_248 TM0 hr0 dX12_unit_144 rfl rfl (Nat.le_of_ble_eq_true rfl) rfl ⟨(ty_cons (ok_r hr0 (by decide) (by decide)) ty_nil), ⟨_, rfl⟩⟩ (fun w30 rv o31 q32 => ?_)
          obtain ⟨s33, po, hpo34, hrv35, hty36, rt, hfs37⟩ := q32
          replace s33 : fx_sm (gsM, TM, cy, fun _ => True) [(12, 4), (12, 5)] w w30 := s33
          simp only [km295_c, List.mem_cons, List.not_mem_nil, or_false] at hpo34
          subst hpo34
          obtain rfl := hrv35
          have hf38 := fs_t hnd o31 hr0 rfl hfs37
          refine hr_norm (st' := []) rfl ?_
          rcases hb2 with rfl | rfl
          · rcases hb3 with rfl | rfl
            · refine hr_pick (lv' := [(0, .ref r), (2, zv 0), (3, zv 0), (4, zv (c0))]) [0, 1, 2, 3] rfl ?_
              exact k147_00 _ _ o31 (fx_sm_tr sm s33 (by decide)) (EI_fr how o31 s33 (by decide) ei) (by rw [sm_f how o31 s33 (by decide)]; omega) ⟨by have : vi w30 0 39 = vi w 0 39 := (by rw [sm_f how o31 s33 (by decide)]); omega, by have : vi w30 0 37 = vi w 0 37 := (by rw [sm_f how o31 s33 (by decide)]); omega, fun j => (show vi w30 21 j = vi w 21 j from by rw [sm_a how o31 s33 TMa_21 (by decide)]).trans (hx3 j)⟩ hc (by omega)
            · refine hr_pick (lv' := [(0, .ref r), (2, zv 0), (3, zv 1), (4, zv (c0))]) [0, 1, 2, 3] rfl ?_
              exact k147_01 _ _ o31 (fx_sm_tr sm s33 (by decide)) (EI_fr how o31 s33 (by decide) ei) (by rw [sm_f how o31 s33 (by decide)]; omega) ⟨by have : vi w30 0 39 = vi w 0 39 := (by rw [sm_f how o31 s33 (by decide)]); omega, by have : vi w30 0 37 = vi w 0 37 := (by rw [sm_f how o31 s33 (by decide)]); omega, fun j => (show vi w30 21 j = vi w 21 j from by rw [sm_a how o31 s33 TMa_21 (by decide)]).trans (hx3 j)⟩ hc (by omega)
          · refine hr_pick (lv' := [(0, .ref r), (2, zv 1), (4, zv (c0))]) [0, 1, 3] rfl ?_
            exact k147_1 _ _ o31 (fx_sm_tr sm s33 (by decide)) (EI_fr how o31 s33 (by decide) ei) (by rw [sm_f how o31 s33 (by decide)]; omega) ⟨by have : vi w30 0 39 = vi w 0 39 := (by rw [sm_f how o31 s33 (by decide)]); omega, by have : vi w30 0 37 = vi w 0 37 := (by rw [sm_f how o31 s33 (by decide)]); omega, fun j => (show vi w30 21 j = vi w 21 j from by rw [sm_a how o31 s33 TMa_21 (by decide)]).trans (hx3 j)⟩ hc (by omega)
        · have c29 : (bb5 : Int) = 0 := c29
          refine hr_iln C 1 dX12_unit_126 rfl rfl rfl ?_
          refine hr_if C 134 dX12_unit_127 (by decide) ⟨by omega, by omega⟩ rfl (fun c39 => ?_) (fun c39 => ?_)
          · have c39 : ¬ (bb2 : Int) = 0 := c39
            refine hr_aln C 0 dX12_unit_134 rfl rfl rfl ?_
            refine hr_gI (lo := -2147483648) (hi := 2147483647) C hr0 TM0 rfl fl_X12_320 dX12_unit_135 rfl (fun b40 b41 => ?_)
            refine hr_bi C dX12_unit_138 (by decide +kernel) rfl ?_
            refine hr_cmp C 147 dX12_unit_140 (by decide) ⟨by omega, by omega⟩ ⟨by omega, by omega⟩ rfl (fun c42 => ?_) (fun c42 => ?_)
            · have c42 : ¬ (vi w 0 37 : Int) = 7 := c42
              rcases hb2 with rfl | rfl
              · rcases hb3 with rfl | rfl
                · refine hr_pick (lv' := [(0, .ref r), (2, zv 0), (3, zv 0), (4, zv (c0))]) [0, 1, 2, 3] rfl ?_
                  exact k147_00 _ _ how sm ei (by omega) ⟨by have : vi w 0 39 = vi w 0 39 := rfl; omega, by have : vi w 0 37 = vi w 0 37 := rfl; omega, fun j => (show vi w 21 j = vi w 21 j from rfl).trans (hx3 j)⟩ hc (by omega)
                · refine hr_pick (lv' := [(0, .ref r), (2, zv 0), (3, zv 1), (4, zv (c0))]) [0, 1, 2, 3] rfl ?_
                  exact k147_01 _ _ how sm ei (by omega) ⟨by have : vi w 0 39 = vi w 0 39 := rfl; omega, by have : vi w 0 37 = vi w 0 37 := rfl; omega, fun j => (show vi w 21 j = vi w 21 j from rfl).trans (hx3 j)⟩ hc (by omega)
              · refine hr_pick (lv' := [(0, .ref r), (2, zv 1), (4, zv (c0))]) [0, 1, 3] rfl ?_
                exact k147_1 _ _ how sm ei (by omega) ⟨by have : vi w 0 39 = vi w 0 39 := rfl; omega, by have : vi w 0 37 = vi w 0 37 := rfl; omega, fun j => (show vi w 21 j = vi w 21 j from rfl).trans (hx3 j)⟩ hc (by omega)
            · have c42 : (vi w 0 37 : Int) = 7 := c42
              refine hr_aln C 0 dX12_unit_143 rfl rfl rfl ?_
              refine hr_cV (As := []) (rest := []) C (hM_fx (km295 h)) ⟨by decide, by decide⟩ iV_X12_misplaced g_X12_248 TM0 hr0 dX12_unit_144 rfl rfl (Nat.le_of_ble_eq_true rfl) rfl ⟨(ty_cons (ok_r hr0 (by decide) (by decide)) ty_nil), ⟨_, rfl⟩⟩ (fun w43 rv o44 q45 => ?_)
              obtain ⟨s46, po, hpo47, hrv48, hty49, rt, hfs50⟩ := q45
              replace s46 : fx_sm (gsM, TM, cy, fun _ => True) [(12, 4), (12, 5)] w w43 := s46
              simp only [km295_c, List.mem_cons, List.not_mem_nil, or_false] at hpo47
              subst hpo47
              obtain rfl := hrv48
              have hf51 := fs_t hnd o44 hr0 rfl hfs50
              refine hr_norm (st' := []) rfl ?_
              rcases hb2 with rfl | rfl
              · rcases hb3 with rfl | rfl
                · refine hr_pick (lv' := [(0, .ref r), (2, zv 0), (3, zv 0), (4, zv (c0))]) [0, 1, 2, 3] rfl ?_
                  exact k147_00 _ _ o44 (fx_sm_tr sm s46 (by decide)) (EI_fr how o44 s46 (by decide) ei) (by rw [sm_f how o44 s46 (by decide)]; omega) ⟨by have : vi w43 0 39 = vi w 0 39 := (by rw [sm_f how o44 s46 (by decide)]); omega, by have : vi w43 0 37 = vi w 0 37 := (by rw [sm_f how o44 s46 (by decide)]); omega, fun j => (show vi w43 21 j = vi w 21 j from by rw [sm_a how o44 s46 TMa_21 (by decide)]).trans (hx3 j)⟩ hc (by omega)
                · refine hr_pick (lv' := [(0, .ref r), (2, zv 0), (3, zv 1), (4, zv (c0))]) [0, 1, 2, 3] rfl ?_
                  exact k147_01 _ _ o44 (fx_sm_tr sm s46 (by decide)) (EI_fr how o44 s46 (by decide) ei) (by rw [sm_f how o44 s46 (by decide)]; omega) ⟨by have : vi w43 0 39 = vi w 0 39 := (by rw [sm_f how o44 s46 (by decide)]); omega, by have : vi w43 0 37 = vi w 0 37 := (by rw [sm_f how o44 s46 (by decide)]); omega, fun j => (show vi w43 21 j = vi w 21 j from by rw [sm_a how o44 s46 TMa_21 (by decide)]).trans (hx3 j)⟩ hc (by omega)
              · refine hr_pick (lv' := [(0, .ref r), (2, zv 1), (4, zv (c0))]) [0, 1, 3] rfl ?_
                exact k147_1 _ _ o44 (fx_sm_tr sm s46 (by decide)) (EI_fr how o44 s46 (by decide) ei) (by rw [sm_f how o44 s46 (by decide)]; omega) ⟨by have : vi w43 0 39 = vi w 0 39 := (by rw [sm_f how o44 s46 (by decide)]); omega, by have : vi w43 0 37 = vi w 0 37 := (by rw [sm_f how o44 s46 (by decide)]); omega, fun j => (show vi w43 21 j = vi w 21 j from by rw [sm_a how o44 s46 TMa_21 (by decide)]).trans (hx3 j)⟩ hc (by omega)
          · have c39 : (bb2 : Int) = 0 := c39
            refine hr_iln C 2 dX12_unit_130 rfl rfl rfl ?_
            refine hr_if C 147 dX12_unit_131 (by decide) ⟨by omega, by omega⟩ rfl (fun c52 => ?_) (fun c52 => ?_)
            · have c52 : (bb3 : Int) = 0 := c52
              rcases hb2 with rfl | rfl
              · rcases hb3 with rfl | rfl
                · refine hr_pick (lv' := [(0, .ref r), (2, zv 0), (3, zv 0), (4, zv (c0))]) [0, 1, 2, 3] rfl ?_
                  exact k147_00 _ _ how sm ei (by omega) ⟨by have : vi w 0 39 = vi w 0 39 := rfl; omega, by have : vi w 0 37 = vi w 0 37 := rfl; omega, fun j => (show vi w 21 j = vi w 21 j from rfl).trans (hx3 j)⟩ hc (by omega)
                · refine hr_pick (lv' := [(0, .ref r), (2, zv 0), (3, zv 1), (4, zv (c0))]) [0, 1, 2, 3] rfl ?_
                  exact k147_01 _ _ how sm ei (by omega) ⟨by have : vi w 0 39 = vi w 0 39 := rfl; omega, by have : vi w 0 37 = vi w 0 37 := rfl; omega, fun j => (show vi w 21 j = vi w 21 j from rfl).trans (hx3 j)⟩ hc (by omega)
              · refine hr_pick (lv' := [(0, .ref r), (2, zv 1), (4, zv (c0))]) [0, 1, 3] rfl ?_
                exact k147_1 _ _ how sm ei (by omega) ⟨by have : vi w 0 39 = vi w 0 39 := rfl; omega, by have : vi w 0 37 = vi w 0 37 := rfl; omega, fun j => (show vi w 21 j = vi w 21 j from rfl).trans (hx3 j)⟩ hc (by omega)
            · have c52 : ¬ (bb3 : Int) = 0 := c52
              refine hr_aln C 0 dX12_unit_134 rfl rfl rfl ?_
              refine hr_gI (lo := -2147483648) (hi := 2147483647) C hr0 TM0 rfl fl_X12_320 dX12_unit_135 rfl (fun b53 b54 => ?_)
              refine hr_bi C dX12_unit_138 (by decide +kernel) rfl ?_
              refine hr_cmp C 147 dX12_unit_140 (by decide) ⟨by omega, by omega⟩ ⟨by omega, by omega⟩ rfl (fun c55 => ?_) (fun c55 => ?_)
              · have c55 : ¬ (vi w 0 37 : Int) = 7 := c55
                rcases hb2 with rfl | rfl
                · rcases hb3 with rfl | rfl
                  · refine hr_pick (lv' := [(0, .ref r), (2, zv 0), (3, zv 0), (4, zv (c0))]) [0, 1, 2, 3] rfl ?_
                    exact k147_00 _ _ how sm ei (by omega) ⟨by have : vi w 0 39 = vi w 0 39 := rfl; omega, by have : vi w 0 37 = vi w 0 37 := rfl; omega, fun j => (show vi w 21 j = vi w 21 j from rfl).trans (hx3 j)⟩ hc (by omega)
                  · refine hr_pick (lv' := [(0, .ref r), (2, zv 0), (3, zv 1), (4, zv (c0))]) [0, 1, 2, 3] rfl ?_
                    exact k147_01 _ _ how sm ei (by omega) ⟨by have : vi w 0 39 = vi w 0 39 := rfl; omega, by have : vi w 0 37 = vi w 0 37 := rfl; omega, fun j => (show vi w 21 j = vi w 21 j from rfl).trans (hx3 j)⟩ hc (by omega)
                · refine hr_pick (lv' := [(0, .ref r), (2, zv 1), (4, zv (c0))]) [0, 1, 3] rfl ?_
                  exact k147_1 _ _ how sm ei (by omega) ⟨by have : vi w 0 39 = vi w 0 39 := rfl; omega, by have : vi w 0 37 = vi w 0 37 := rfl; omega, fun j => (show vi w 21 j = vi w 21 j from rfl).trans (hx3 j)⟩ hc (by omega)
              · have c55 : (vi w 0 37 : Int) = 7 := c55
                refine hr_aln C 0 dX12_unit_143 rfl rfl rfl ?_
                refine hr_cV (As := []) (rest := []) C (hM_fx (km295 h)) ⟨by decide, by decide⟩ iV_X12_misplaced g_X12_248 TM0 hr0 dX12_unit_144 rfl rfl (Nat.le_of_ble_eq_true rfl) rfl ⟨(ty_cons (ok_r hr0 (by decide) (by decide)) ty_nil), ⟨_, rfl⟩⟩ (fun w56 rv o57 q58 => ?_)
                obtain ⟨s59, po, hpo60, hrv61, hty62, rt, hfs63⟩ := q58
                replace s59 : fx_sm (gsM, TM, cy, fun _ => True) [(12, 4), (12, 5)] w w56 := s59
                simp only [km295_c, List.mem_cons, List.not_mem_nil, or_false] at hpo60
                subst hpo60
                obtain rfl := hrv61
                have hf64 := fs_t hnd o57 hr0 rfl hfs63
                refine hr_norm (st' := []) rfl ?_
                rcases hb2 with rfl | rfl
                · rcases hb3 with rfl | rfl
                  · refine hr_pick (lv' := [(0, .ref r), (2, zv 0), (3, zv 0), (4, zv (c0))]) [0, 1, 2, 3] rfl ?_
                    exact k147_00 _ _ o57 (fx_sm_tr sm s59 (by decide)) (EI_fr how o57 s59 (by decide) ei) (by rw [sm_f how o57 s59 (by decide)]; omega) ⟨by have : vi w56 0 39 = vi w 0 39 := (by rw [sm_f how o57 s59 (by decide)]); omega, by have : vi w56 0 37 = vi w 0 37 := (by rw [sm_f how o57 s59 (by decide)]); omega, fun j => (show vi w56 21 j = vi w 21 j from by rw [sm_a how o57 s59 TMa_21 (by decide)]).trans (hx3 j)⟩ hc (by omega)
                  · refine hr_pick (lv' := [(0, .ref r), (2, zv 0), (3, zv 1), (4, zv (c0))]) [0, 1, 2, 3] rfl ?_
                    exact k147_01 _ _ o57 (fx_sm_tr sm s59 (by decide)) (EI_fr how o57 s59 (by decide) ei) (by rw [sm_f how o57 s59 (by decide)]; omega) ⟨by have : vi w56 0 39 = vi w 0 39 := (by rw [sm_f how o57 s59 (by decide)]); omega, by have : vi w56 0 37 = vi w 0 37 := (by rw [sm_f how o57 s59 (by decide)]); omega, fun j => (show vi w56 21 j = vi w 21 j from by rw [sm_a how o57 s59 TMa_21 (by decide)]).trans (hx3 j)⟩ hc (by omega)
                · refine hr_pick (lv' := [(0, .ref r), (2, zv 1), (4, zv (c0))]) [0, 1, 3] rfl ?_
                  exact k147_1 _ _ o57 (fx_sm_tr sm s59 (by decide)) (EI_fr how o57 s59 (by decide) ei) (by rw [sm_f how o57 s59 (by decide)]; omega) ⟨by have : vi w56 0 39 = vi w 0 39 := (by rw [sm_f how o57 s59 (by decide)]); omega, by have : vi w56 0 37 = vi w 0 37 := (by rw [sm_f how o57 s59 (by decide)]); omega, fun j => (show vi w56 21 j = vi w 21 j from by rw [sm_a how o57 s59 TMa_21 (by decide)]).trans (hx3 j)⟩ hc (by omega)
      · have c28 : (c0 : Int) = 0 := c28
        refine hr_aln C 0 dX12_unit_109 rfl rfl rfl ?_
        refine hr_gI (lo := -2147483648) (hi := 2147483647) C hr0 TM0 rfl fl_X12_213 dX12_unit_110 rfl (fun b65 b66 => ?_)
        refine hr_ic C dX12_unit_113 rfl ?_
        refine hr_cmp C 121 dX12_unit_114 (by decide) ⟨by omega, by omega⟩ ⟨by omega, by omega⟩ rfl (fun c67 => ?_) (fun c67 => ?_)
        · have c67 : (vi w 0 8 : Int) = 4 := c67
          refine hr_il C 4 dX12_unit_121 rfl rfl ?_
          refine hr_if C 143 dX12_unit_123 (by decide) ⟨by omega, by omega⟩ rfl (fun c68 => ?_) (fun c68 => ?_)
          · have c68 : ¬ (bb5 : Int) = 0 := c68
            refine hr_aln C 0 dX12_unit_143 rfl rfl rfl ?_
            refine hr_cV (As := []) (rest := []) C (hM_fx (km295 h)) ⟨by decide, by decide⟩ iV_X12_misplaced g_X12_248 TM0 hr0 dX12_unit_144 rfl rfl (Nat.le_of_ble_eq_true rfl) rfl ⟨(ty_cons (ok_r hr0 (by decide) (by decide)) ty_nil), ⟨_, rfl⟩⟩ (fun w69 rv o70 q71 => ?_)
            obtain ⟨s72, po, hpo73, hrv74, hty75, rt, hfs76⟩ := q71
            replace s72 : fx_sm (gsM, TM, cy, fun _ => True) [(12, 4), (12, 5)] w w69 := s72
            simp only [km295_c, List.mem_cons, List.not_mem_nil, or_false] at hpo73
            subst hpo73
            obtain rfl := hrv74
            have hf77 := fs_t hnd o70 hr0 rfl hfs76
            refine hr_norm (st' := []) rfl ?_
            rcases hb2 with rfl | rfl
            · rcases hb3 with rfl | rfl
              · refine hr_pick (lv' := [(0, .ref r), (2, zv 0), (3, zv 0), (4, zv (c0))]) [0, 1, 2, 3] rfl ?_
                exact k147_00 _ _ o70 (fx_sm_tr sm s72 (by decide)) (EI_fr how o70 s72 (by decide) ei) (by rw [sm_f how o70 s72 (by decide)]; omega) ⟨by have : vi w69 0 39 = vi w 0 39 := (by rw [sm_f how o70 s72 (by decide)]); omega, by have : vi w69 0 37 = vi w 0 37 := (by rw [sm_f how o70 s72 (by decide)]); omega, fun j => (show vi w69 21 j = vi w 21 j from by rw [sm_a how o70 s72 TMa_21 (by decide)]).trans (hx3 j)⟩ hc (by omega)
              · refine hr_pick (lv' := [(0, .ref r), (2, zv 0), (3, zv 1), (4, zv (c0))]) [0, 1, 2, 3] rfl ?_
                exact k147_01 _ _ o70 (fx_sm_tr sm s72 (by decide)) (EI_fr how o70 s72 (by decide) ei) (by rw [sm_f how o70 s72 (by decide)]; omega) ⟨by have : vi w69 0 39 = vi w 0 39 := (by rw [sm_f how o70 s72 (by decide)]); omega, by have : vi w69 0 37 = vi w 0 37 := (by rw [sm_f how o70 s72 (by decide)]); omega, fun j => (show vi w69 21 j = vi w 21 j from by rw [sm_a how o70 s72 TMa_21 (by decide)]).trans (hx3 j)⟩ hc (by omega)
            · refine hr_pick (lv' := [(0, .ref r), (2, zv 1), (4, zv (c0))]) [0, 1, 3] rfl ?_
              exact k147_1 _ _ o70 (fx_sm_tr sm s72 (by decide)) (EI_fr how o70 s72 (by decide) ei) (by rw [sm_f how o70 s72 (by decide)]; omega) ⟨by have : vi w69 0 39 = vi w 0 39 := (by rw [sm_f how o70 s72 (by decide)]); omega, by have : vi w69 0 37 = vi w 0 37 := (by rw [sm_f how o70 s72 (by decide)]); omega, fun j => (show vi w69 21 j = vi w 21 j from by rw [sm_a how o70 s72 TMa_21 (by decide)]).trans (hx3 j)⟩ hc (by omega)
          · have c68 : (bb5 : Int) = 0 := c68
            refine hr_iln C 1 dX12_unit_126 rfl rfl rfl ?_
            refine hr_if C 134 dX12_unit_127 (by decide) ⟨by omega, by omega⟩ rfl (fun c78 => ?_) (fun c78 => ?_)
            · have c78 : ¬ (bb2 : Int) = 0 := c78
              refine hr_aln C 0 dX12_unit_134 rfl rfl rfl ?_
              refine hr_gI (lo := -2147483648) (hi := 2147483647) C hr0 TM0 rfl fl_X12_320 dX12_unit_135 rfl (fun b79 b80 => ?_)
              refine hr_bi C dX12_unit_138 (by decide +kernel) rfl ?_
              refine hr_cmp C 147 dX12_unit_140 (by decide) ⟨by omega, by omega⟩ ⟨by omega, by omega⟩ rfl (fun c81 => ?_) (fun c81 => ?_)
              · have c81 : ¬ (vi w 0 37 : Int) = 7 := c81
                rcases hb2 with rfl | rfl
                · rcases hb3 with rfl | rfl
                  · refine hr_pick (lv' := [(0, .ref r), (2, zv 0), (3, zv 0), (4, zv (c0))]) [0, 1, 2, 3] rfl ?_
                    exact k147_00 _ _ how sm ei (by omega) ⟨by have : vi w 0 39 = vi w 0 39 := rfl; omega, by have : vi w 0 37 = vi w 0 37 := rfl; omega, fun j => (show vi w 21 j = vi w 21 j from rfl).trans (hx3 j)⟩ hc (by omega)
                  · refine hr_pick (lv' := [(0, .ref r), (2, zv 0), (3, zv 1), (4, zv (c0))]) [0, 1, 2, 3] rfl ?_
                    exact k147_01 _ _ how sm ei (by omega) ⟨by have : vi w 0 39 = vi w 0 39 := rfl; omega, by have : vi w 0 37 = vi w 0 37 := rfl; omega, fun j => (show vi w 21 j = vi w 21 j from rfl).trans (hx3 j)⟩ hc (by omega)
                · refine hr_pick (lv' := [(0, .ref r), (2, zv 1), (4, zv (c0))]) [0, 1, 3] rfl ?_
                  exact k147_1 _ _ how sm ei (by omega) ⟨by have : vi w 0 39 = vi w 0 39 := rfl; omega, by have : vi w 0 37 = vi w 0 37 := rfl; omega, fun j => (show vi w 21 j = vi w 21 j from rfl).trans (hx3 j)⟩ hc (by omega)
              · have c81 : (vi w 0 37 : Int) = 7 := c81
                refine hr_aln C 0 dX12_unit_143 rfl rfl rfl ?_
                refine hr_cV (As := []) (rest := []) C (hM_fx (km295 h)) ⟨by decide, by decide⟩ iV_X12_misplaced g_X12_248 TM0 hr0 dX12_unit_144 rfl rfl (Nat.le_of_ble_eq_true rfl) rfl ⟨(ty_cons (ok_r hr0 (by decide) (by decide)) ty_nil), ⟨_, rfl⟩⟩ (fun w82 rv o83 q84 => ?_)
                obtain ⟨s85, po, hpo86, hrv87, hty88, rt, hfs89⟩ := q84
                replace s85 : fx_sm (gsM, TM, cy, fun _ => True) [(12, 4), (12, 5)] w w82 := s85
                simp only [km295_c, List.mem_cons, List.not_mem_nil, or_false] at hpo86
                subst hpo86
                obtain rfl := hrv87
                have hf90 := fs_t hnd o83 hr0 rfl hfs89
                refine hr_norm (st' := []) rfl ?_
                rcases hb2 with rfl | rfl
                · rcases hb3 with rfl | rfl
                  · refine hr_pick (lv' := [(0, .ref r), (2, zv 0), (3, zv 0), (4, zv (c0))]) [0, 1, 2, 3] rfl ?_
                    exact k147_00 _ _ o83 (fx_sm_tr sm s85 (by decide)) (EI_fr how o83 s85 (by decide) ei) (by rw [sm_f how o83 s85 (by decide)]; omega) ⟨by have : vi w82 0 39 = vi w 0 39 := (by rw [sm_f how o83 s85 (by decide)]); omega, by have : vi w82 0 37 = vi w 0 37 := (by rw [sm_f how o83 s85 (by decide)]); omega, fun j => (show vi w82 21 j = vi w 21 j from by rw [sm_a how o83 s85 TMa_21 (by decide)]).trans (hx3 j)⟩ hc (by omega)
                  · refine hr_pick (lv' := [(0, .ref r), (2, zv 0), (3, zv 1), (4, zv (c0))]) [0, 1, 2, 3] rfl ?_
                    exact k147_01 _ _ o83 (fx_sm_tr sm s85 (by decide)) (EI_fr how o83 s85 (by decide) ei) (by rw [sm_f how o83 s85 (by decide)]; omega) ⟨by have : vi w82 0 39 = vi w 0 39 := (by rw [sm_f how o83 s85 (by decide)]); omega, by have : vi w82 0 37 = vi w 0 37 := (by rw [sm_f how o83 s85 (by decide)]); omega, fun j => (show vi w82 21 j = vi w 21 j from by rw [sm_a how o83 s85 TMa_21 (by decide)]).trans (hx3 j)⟩ hc (by omega)
                · refine hr_pick (lv' := [(0, .ref r), (2, zv 1), (4, zv (c0))]) [0, 1, 3] rfl ?_
                  exact k147_1 _ _ o83 (fx_sm_tr sm s85 (by decide)) (EI_fr how o83 s85 (by decide) ei) (by rw [sm_f how o83 s85 (by decide)]; omega) ⟨by have : vi w82 0 39 = vi w 0 39 := (by rw [sm_f how o83 s85 (by decide)]); omega, by have : vi w82 0 37 = vi w 0 37 := (by rw [sm_f how o83 s85 (by decide)]); omega, fun j => (show vi w82 21 j = vi w 21 j from by rw [sm_a how o83 s85 TMa_21 (by decide)]).trans (hx3 j)⟩ hc (by omega)
            · have c78 : (bb2 : Int) = 0 := c78
              refine hr_iln C 2 dX12_unit_130 rfl rfl rfl ?_
              refine hr_if C 147 dX12_unit_131 (by decide) ⟨by omega, by omega⟩ rfl (fun c91 => ?_) (fun c91 => ?_)
              · have c91 : (bb3 : Int) = 0 := c91
                rcases hb2 with rfl | rfl
                · rcases hb3 with rfl | rfl
                  · refine hr_pick (lv' := [(0, .ref r), (2, zv 0), (3, zv 0), (4, zv (c0))]) [0, 1, 2, 3] rfl ?_
                    exact k147_00 _ _ how sm ei (by omega) ⟨by have : vi w 0 39 = vi w 0 39 := rfl; omega, by have : vi w 0 37 = vi w 0 37 := rfl; omega, fun j => (show vi w 21 j = vi w 21 j from rfl).trans (hx3 j)⟩ hc (by omega)
                  · refine hr_pick (lv' := [(0, .ref r), (2, zv 0), (3, zv 1), (4, zv (c0))]) [0, 1, 2, 3] rfl ?_
                    exact k147_01 _ _ how sm ei (by omega) ⟨by have : vi w 0 39 = vi w 0 39 := rfl; omega, by have : vi w 0 37 = vi w 0 37 := rfl; omega, fun j => (show vi w 21 j = vi w 21 j from rfl).trans (hx3 j)⟩ hc (by omega)
                · refine hr_pick (lv' := [(0, .ref r), (2, zv 1), (4, zv (c0))]) [0, 1, 3] rfl ?_
                  exact k147_1 _ _ how sm ei (by omega) ⟨by have : vi w 0 39 = vi w 0 39 := rfl; omega, by have : vi w 0 37 = vi w 0 37 := rfl; omega, fun j => (show vi w 21 j = vi w 21 j from rfl).trans (hx3 j)⟩ hc (by omega)
              · have c91 : ¬ (bb3 : Int) = 0 := c91
                refine hr_aln C 0 dX12_unit_134 rfl rfl rfl ?_
                refine hr_gI (lo := -2147483648) (hi := 2147483647) C hr0 TM0 rfl fl_X12_320 dX12_unit_135 rfl (fun b92 b93 => ?_)
                refine hr_bi C dX12_unit_138 (by decide +kernel) rfl ?_
                refine hr_cmp C 147 dX12_unit_140 (by decide) ⟨by omega, by omega⟩ ⟨by omega, by omega⟩ rfl (fun c94 => ?_) (fun c94 => ?_)
                · have c94 : ¬ (vi w 0 37 : Int) = 7 := c94
                  rcases hb2 with rfl | rfl
                  · rcases hb3 with rfl | rfl
                    · refine hr_pick (lv' := [(0, .ref r), (2, zv 0), (3, zv 0), (4, zv (c0))]) [0, 1, 2, 3] rfl ?_
                      exact k147_00 _ _ how sm ei (by omega) ⟨by have : vi w 0 39 = vi w 0 39 := rfl; omega, by have : vi w 0 37 = vi w 0 37 := rfl; omega, fun j => (show vi w 21 j = vi w 21 j from rfl).trans (hx3 j)⟩ hc (by omega)
                    · refine hr_pick (lv' := [(0, .ref r), (2, zv 0), (3, zv 1), (4, zv (c0))]) [0, 1, 2, 3] rfl ?_
                      exact k147_01 _ _ how sm ei (by omega) ⟨by have : vi w 0 39 = vi w 0 39 := rfl; omega, by have : vi w 0 37 = vi w 0 37 := rfl; omega, fun j => (show vi w 21 j = vi w 21 j from rfl).trans (hx3 j)⟩ hc (by omega)
                  · refine hr_pick (lv' := [(0, .ref r), (2, zv 1), (4, zv (c0))]) [0, 1, 3] rfl ?_
                    exact k147_1 _ _ how sm ei (by omega) ⟨by have : vi w 0 39 = vi w 0 39 := rfl; omega, by have : vi w 0 37 = vi w 0 37 := rfl; omega, fun j => (show vi w 21 j = vi w 21 j from rfl).trans (hx3 j)⟩ hc (by omega)
                · have c94 : (vi w 0 37 : Int) = 7 := c94
                  refine hr_aln C 0 dX12_unit_143 rfl rfl rfl ?_
                  refine hr_cV (As := []) (rest := []) C (hM_fx (km295 h)) ⟨by decide, by decide⟩ iV_X12_misplaced g_X12_248 TM0 hr0 dX12_unit_144 rfl rfl (Nat.le_of_ble_eq_true rfl) rfl ⟨(ty_cons (ok_r hr0 (by decide) (by decide)) ty_nil), ⟨_, rfl⟩⟩ (fun w95 rv o96 q97 => ?_)
                  obtain ⟨s98, po, hpo99, hrv100, hty101, rt, hfs102⟩ := q97
                  replace s98 : fx_sm (gsM, TM, cy, fun _ => True) [(12, 4), (12, 5)] w w95 := s98
                  simp only [km295_c, List.mem_cons, List.not_mem_nil, or_false] at hpo99
                  subst hpo99
                  obtain rfl := hrv100
                  have hf103 := fs_t hnd o96 hr0 rfl hfs102
                  refine hr_norm (st' := []) rfl ?_
                  rcases hb2 with rfl | rfl
                  · rcases hb3 with rfl | rfl
                    · refine hr_pick (lv' := [(0, .ref r), (2, zv 0), (3, zv 0), (4, zv (c0))]) [0, 1, 2, 3] rfl ?_
                      exact k147_00 _ _ o96 (fx_sm_tr sm s98 (by decide)) (EI_fr how o96 s98 (by decide) ei) (by rw [sm_f how o96 s98 (by decide)]; omega) ⟨by have : vi w95 0 39 = vi w 0 39 := (by rw [sm_f how o96 s98 (by decide)]); omega, by have : vi w95 0 37 = vi w 0 37 := (by rw [sm_f how o96 s98 (by decide)]); omega, fun j => (show vi w95 21 j = vi w 21 j from by rw [sm_a how o96 s98 TMa_21 (by decide)]).trans (hx3 j)⟩ hc (by omega)
                    · refine hr_pick (lv' := [(0, .ref r), (2, zv 0), (3, zv 1), (4, zv (c0))]) [0, 1, 2, 3] rfl ?_
                      exact k147_01 _ _ o96 (fx_sm_tr sm s98 (by decide)) (EI_fr how o96 s98 (by decide) ei) (by rw [sm_f how o96 s98 (by decide)]; omega) ⟨by have : vi w95 0 39 = vi w 0 39 := (by rw [sm_f how o96 s98 (by decide)]); omega, by have : vi w95 0 37 = vi w 0 37 := (by rw [sm_f how o96 s98 (by decide)]); omega, fun j => (show vi w95 21 j = vi w 21 j from by rw [sm_a how o96 s98 TMa_21 (by decide)]).trans (hx3 j)⟩ hc (by omega)
                  · refine hr_pick (lv' := [(0, .ref r), (2, zv 1), (4, zv (c0))]) [0, 1, 3] rfl ?_
                    exact k147_1 _ _ o96 (fx_sm_tr sm s98 (by decide)) (EI_fr how o96 s98 (by decide) ei) (by rw [sm_f how o96 s98 (by decide)]; omega) ⟨by have : vi w95 0 39 = vi w 0 39 := (by rw [sm_f how o96 s98 (by decide)]); omega, by have : vi w95 0 37 = vi w 0 37 := (by rw [sm_f how o96 s98 (by decide)]); omega, fun j => (show vi w95 21 j = vi w 21 j from by rw [sm_a how o96 s98 TMa_21 (by decide)]).trans (hx3 j)⟩ hc (by omega)
        · have c67 : ¬ (vi w 0 8 : Int) = 4 := c67
          refine hr_iln C 2 dX12_unit_117 rfl rfl rfl ?_
          refine hr_if C 143 dX12_unit_118 (by decide) ⟨by omega, by omega⟩ rfl (fun c104 => ?_) (fun c104 => ?_)
          · have c104 : (bb3 : Int) = 0 := c104
            refine hr_aln C 0 dX12_unit_143 rfl rfl rfl ?_
            refine hr_cV (As := []) (rest := []) C (hM_fx (km295 h)) ⟨by decide, by decide⟩ iV_X12_misplaced g_X12_248 TM0 hr0 dX12_unit_144 rfl rfl (Nat.le_of_ble_eq_true rfl) rfl ⟨(ty_cons (ok_r hr0 (by decide) (by decide)) ty_nil), ⟨_, rfl⟩⟩ (fun w105 rv o106 q107 => ?_)
            obtain ⟨s108, po, hpo109, hrv110, hty111, rt, hfs112⟩ := q107
            replace s108 : fx_sm (gsM, TM, cy, fun _ => True) [(12, 4), (12, 5)] w w105 := s108
            simp only [km295_c, List.mem_cons, List.not_mem_nil, or_false] at hpo109
            subst hpo109
            obtain rfl := hrv110
            have hf113 := fs_t hnd o106 hr0 rfl hfs112
            refine hr_norm (st' := []) rfl ?_
            rcases hb2 with rfl | rfl
            · rcases hb3 with rfl | rfl
              · refine hr_pick (lv' := [(0, .ref r), (2, zv 0), (3, zv 0), (4, zv (c0))]) [0, 1, 2, 3] rfl ?_
                exact k147_00 _ _ o106 (fx_sm_tr sm s108 (by decide)) (EI_fr how o106 s108 (by decide) ei) (by rw [sm_f how o106 s108 (by decide)]; omega) ⟨by have : vi w105 0 39 = vi w 0 39 := (by rw [sm_f how o106 s108 (by decide)]); omega, by have : vi w105 0 37 = vi w 0 37 := (by rw [sm_f how o106 s108 (by decide)]); omega, fun j => (show vi w105 21 j = vi w 21 j from by rw [sm_a how o106 s108 TMa_21 (by decide)]).trans (hx3 j)⟩ hc (by omega)
              · refine hr_pick (lv' := [(0, .ref r), (2, zv 0), (3, zv 1), (4, zv (c0))]) [0, 1, 2, 3] rfl ?_
                exact k147_01 _ _ o106 (fx_sm_tr sm s108 (by decide)) (EI_fr how o106 s108 (by decide) ei) (by rw [sm_f how o106 s108 (by decide)]; omega) ⟨by have : vi w105 0 39 = vi w 0 39 := (by rw [sm_f how o106 s108 (by decide)]); omega, by have : vi w105 0 37 = vi w 0 37 := (by rw [sm_f how o106 s108 (by decide)]); omega, fun j => (show vi w105 21 j = vi w 21 j from by rw [sm_a how o106 s108 TMa_21 (by decide)]).trans (hx3 j)⟩ hc (by omega)
            · refine hr_pick (lv' := [(0, .ref r), (2, zv 1), (4, zv (c0))]) [0, 1, 3] rfl ?_
              exact k147_1 _ _ o106 (fx_sm_tr sm s108 (by decide)) (EI_fr how o106 s108 (by decide) ei) (by rw [sm_f how o106 s108 (by decide)]; omega) ⟨by have : vi w105 0 39 = vi w 0 39 := (by rw [sm_f how o106 s108 (by decide)]); omega, by have : vi w105 0 37 = vi w 0 37 := (by rw [sm_f how o106 s108 (by decide)]); omega, fun j => (show vi w105 21 j = vi w 21 j from by rw [sm_a how o106 s108 TMa_21 (by decide)]).trans (hx3 j)⟩ hc (by omega)
          · have c104 : ¬ (bb3 : Int) = 0 := c104
            refine hr_il C 4 dX12_unit_121 rfl rfl ?_
            refine hr_if C 143 dX12_unit_123 (by decide) ⟨by omega, by omega⟩ rfl (fun c114 => ?_) (fun c114 => ?_)
            · have c114 : ¬ (bb5 : Int) = 0 := c114
              refine hr_aln C 0 dX12_unit_143 rfl rfl rfl ?_
              refine hr_cV (As := []) (rest := []) C (hM_fx (km295 h)) ⟨by decide, by decide⟩ iV_X12_misplaced g_X12_248 TM0 hr0 dX12_unit_144 rfl rfl (Nat.le_of_ble_eq_true rfl) rfl ⟨(ty_cons (ok_r hr0 (by decide) (by decide)) ty_nil), ⟨_, rfl⟩⟩ (fun w115 rv o116 q117 => ?_)
              obtain ⟨s118, po, hpo119, hrv120, hty121, rt, hfs122⟩ := q117
              replace s118 : fx_sm (gsM, TM, cy, fun _ => True) [(12, 4), (12, 5)] w w115 := s118
              simp only [km295_c, List.mem_cons, List.not_mem_nil, or_false] at hpo119
              subst hpo119
              obtain rfl := hrv120
              have hf123 := fs_t hnd o116 hr0 rfl hfs122
              refine hr_norm (st' := []) rfl ?_
              rcases hb2 with rfl | rfl
              · rcases hb3 with rfl | rfl
                · refine hr_pick (lv' := [(0, .ref r), (2, zv 0), (3, zv 0), (4, zv (c0))]) [0, 1, 2, 3] rfl ?_
                  exact k147_00 _ _ o116 (fx_sm_tr sm s118 (by decide)) (EI_fr how o116 s118 (by decide) ei) (by rw [sm_f how o116 s118 (by decide)]; omega) ⟨by have : vi w115 0 39 = vi w 0 39 := (by rw [sm_f how o116 s118 (by decide)]); omega, by have : vi w115 0 37 = vi w 0 37 := (by rw [sm_f how o116 s118 (by decide)]); omega, fun j => (show vi w115 21 j = vi w 21 j from by rw [sm_a how o116 s118 TMa_21 (by decide)]).trans (hx3 j)⟩ hc (by omega)
                · refine hr_pick (lv' := [(0, .ref r), (2, zv 0), (3, zv 1), (4, zv (c0))]) [0, 1, 2, 3] rfl ?_
                  exact k147_01 _ _ o116 (fx_sm_tr sm s118 (by decide)) (EI_fr how o116 s118 (by decide) ei) (by rw [sm_f how o116 s118 (by decide)]; omega) ⟨by have : vi w115 0 39 = vi w 0 39 := (by rw [sm_f how o116 s118 (by decide)]); omega, by have : vi w115 0 37 = vi w 0 37 := (by rw [sm_f how o116 s118 (by decide)]); omega, fun j => (show vi w115 21 j = vi w 21 j from by rw [sm_a how o116 s118 TMa_21 (by decide)]).trans (hx3 j)⟩ hc (by omega)
              · refine hr_pick (lv' := [(0, .ref r), (2, zv 1), (4, zv (c0))]) [0, 1, 3] rfl ?_
                exact k147_1 _ _ o116 (fx_sm_tr sm s118 (by decide)) (EI_fr how o116 s118 (by decide) ei) (by rw [sm_f how o116 s118 (by decide)]; omega) ⟨by have : vi w115 0 39 = vi w 0 39 := (by rw [sm_f how o116 s118 (by decide)]); omega, by have : vi w115 0 37 = vi w 0 37 := (by rw [sm_f how o116 s118 (by decide)]); omega, fun j => (show vi w115 21 j = vi w 21 j from by rw [sm_a how o116 s118 TMa_21 (by decide)]).trans (hx3 j)⟩ hc (by omega)
            · have c114 : (bb5 : Int) = 0 := c114
              refine hr_iln C 1 dX12_unit_126 rfl rfl rfl ?_
              refine hr_if C 134 dX12_unit_127 (by decide) ⟨by omega, by omega⟩ rfl (fun c124 => ?_) (fun c124 => ?_)
              · have c124 : ¬ (bb2 : Int) = 0 := c124
                refine hr_aln C 0 dX12_unit_134 rfl rfl rfl ?_
                refine hr_gI (lo := -2147483648) (hi := 2147483647) C hr0 TM0 rfl fl_X12_320 dX12_unit_135 rfl (fun b125 b126 => ?_)
                refine hr_bi C dX12_unit_138 (by decide +kernel) rfl ?_
                refine hr_cmp C 147 dX12_unit_140 (by decide) ⟨by omega, by omega⟩ ⟨by omega, by omega⟩ rfl (fun c127 => ?_) (fun c127 => ?_)
                · have c127 : ¬ (vi w 0 37 : Int) = 7 := c127
                  rcases hb2 with rfl | rfl
                  · rcases hb3 with rfl | rfl
                    · refine hr_pick (lv' := [(0, .ref r), (2, zv 0), (3, zv 0), (4, zv (c0))]) [0, 1, 2, 3] rfl ?_
                      exact k147_00 _ _ how sm ei (by omega) ⟨by have : vi w 0 39 = vi w 0 39 := rfl; omega, by have : vi w 0 37 = vi w 0 37 := rfl; omega, fun j => (show vi w 21 j = vi w 21 j from rfl).trans (hx3 j)⟩ hc (by omega)
                    · refine hr_pick (lv' := [(0, .ref r), (2, zv 0), (3, zv 1), (4, zv (c0))]) [0, 1, 2, 3] rfl ?_
                      exact k147_01 _ _ how sm ei (by omega) ⟨by have : vi w 0 39 = vi w 0 39 := rfl; omega, by have : vi w 0 37 = vi w 0 37 := rfl; omega, fun j => (show vi w 21 j = vi w 21 j from rfl).trans (hx3 j)⟩ hc (by omega)
                  · refine hr_pick (lv' := [(0, .ref r), (2, zv 1), (4, zv (c0))]) [0, 1, 3] rfl ?_
                    exact k147_1 _ _ how sm ei (by omega) ⟨by have : vi w 0 39 = vi w 0 39 := rfl; omega, by have : vi w 0 37 = vi w 0 37 := rfl; omega, fun j => (show vi w 21 j = vi w 21 j from rfl).trans (hx3 j)⟩ hc (by omega)
                · have c127 : (vi w 0 37 : Int) = 7 := c127
                  refine hr_aln C 0 dX12_unit_143 rfl rfl rfl ?_
                  refine hr_cV (As := []) (rest := []) C (hM_fx (km295 h)) ⟨by decide, by decide⟩ iV_X12_misplaced g_X12_248 TM0 hr0 dX12_unit_144 rfl rfl (Nat.le_of_ble_eq_true rfl) rfl ⟨(ty_cons (ok_r hr0 (by decide) (by decide)) ty_nil), ⟨_, rfl⟩⟩ (fun w128 rv o129 q130 => ?_)
                  obtain ⟨s131, po, hpo132, hrv133, hty134, rt, hfs135⟩ := q130
                  replace s131 : fx_sm (gsM, TM, cy, fun _ => True) [(12, 4), (12, 5)] w w128 := s131
                  simp only [km295_c, List.mem_cons, List.not_mem_nil, or_false] at hpo132
                  subst hpo132
                  obtain rfl := hrv133
                  have hf136 := fs_t hnd o129 hr0 rfl hfs135
                  refine hr_norm (st' := []) rfl ?_
                  rcases hb2 with rfl | rfl
                  · rcases hb3 with rfl | rfl
                    · refine hr_pick (lv' := [(0, .ref r), (2, zv 0), (3, zv 0), (4, zv (c0))]) [0, 1, 2, 3] rfl ?_
                      exact k147_00 _ _ o129 (fx_sm_tr sm s131 (by decide)) (EI_fr how o129 s131 (by decide) ei) (by rw [sm_f how o129 s131 (by decide)]; omega) ⟨by have : vi w128 0 39 = vi w 0 39 := (by rw [sm_f how o129 s131 (by decide)]); omega, by have : vi w128 0 37 = vi w 0 37 := (by rw [sm_f how o129 s131 (by decide)]); omega, fun j => (show vi w128 21 j = vi w 21 j from by rw [sm_a how o129 s131 TMa_21 (by decide)]).trans (hx3 j)⟩ hc (by omega)
                    · refine hr_pick (lv' := [(0, .ref r), (2, zv 0), (3, zv 1), (4, zv (c0))]) [0, 1, 2, 3] rfl ?_
                      exact k147_01 _ _ o129 (fx_sm_tr sm s131 (by decide)) (EI_fr how o129 s131 (by decide) ei) (by rw [sm_f how o129 s131 (by decide)]; omega) ⟨by have : vi w128 0 39 = vi w 0 39 := (by rw [sm_f how o129 s131 (by decide)]); omega, by have : vi w128 0 37 = vi w 0 37 := (by rw [sm_f how o129 s131 (by decide)]); omega, fun j => (show vi w128 21 j = vi w 21 j from by rw [sm_a how o129 s131 TMa_21 (by decide)]).trans (hx3 j)⟩ hc (by omega)
                  · refine hr_pick (lv' := [(0, .ref r), (2, zv 1), (4, zv (c0))]) [0, 1, 3] rfl ?_
                    exact k147_1 _ _ o129 (fx_sm_tr sm s131 (by decide)) (EI_fr how o129 s131 (by decide) ei) (by rw [sm_f how o129 s131 (by decide)]; omega) ⟨by have : vi w128 0 39 = vi w 0 39 := (by rw [sm_f how o129 s131 (by decide)]); omega, by have : vi w128 0 37 = vi w 0 37 := (by rw [sm_f how o129 s131 (by decide)]); omega, fun j => (show vi w128 21 j = vi w 21 j from by rw [sm_a how o129 s131 TMa_21 (by decide)]).trans (hx3 j)⟩ hc (by omega)
              · have c124 : (bb2 : Int) = 0 := c124
                refine hr_iln C 2 dX12_unit_130 rfl rfl rfl ?_
                refine hr_if C 147 dX12_unit_131 (by decide) ⟨by omega, by omega⟩ rfl (fun c137 => ?_) (fun c137 => ?_)
                · have c137 : (bb3 : Int) = 0 := c137
                  rcases hb2 with rfl | rfl
                  · rcases hb3 with rfl | rfl
                    · refine hr_pick (lv' := [(0, .ref r), (2, zv 0), (3, zv 0), (4, zv (c0))]) [0, 1, 2, 3] rfl ?_
                      exact k147_00 _ _ how sm ei (by omega) ⟨by have : vi w 0 39 = vi w 0 39 := rfl; omega, by have : vi w 0 37 = vi w 0 37 := rfl; omega, fun j => (show vi w 21 j = vi w 21 j from rfl).trans (hx3 j)⟩ hc (by omega)
                    · refine hr_pick (lv' := [(0, .ref r), (2, zv 0), (3, zv 1), (4, zv (c0))]) [0, 1, 2, 3] rfl ?_
                      exact k147_01 _ _ how sm ei (by omega) ⟨by have : vi w 0 39 = vi w 0 39 := rfl; omega, by have : vi w 0 37 = vi w 0 37 := rfl; omega, fun j => (show vi w 21 j = vi w 21 j from rfl).trans (hx3 j)⟩ hc (by omega)
                  · refine hr_pick (lv' := [(0, .ref r), (2, zv 1), (4, zv (c0))]) [0, 1, 3] rfl ?_
                    exact k147_1 _ _ how sm ei (by omega) ⟨by have : vi w 0 39 = vi w 0 39 := rfl; omega, by have : vi w 0 37 = vi w 0 37 := rfl; omega, fun j => (show vi w 21 j = vi w 21 j from rfl).trans (hx3 j)⟩ hc (by omega)
                · have c137 : ¬ (bb3 : Int) = 0 := c137
                  refine hr_aln C 0 dX12_unit_134 rfl rfl rfl ?_
                  refine hr_gI (lo := -2147483648) (hi := 2147483647) C hr0 TM0 rfl fl_X12_320 dX12_unit_135 rfl (fun b138 b139 => ?_)
                  refine hr_bi C dX12_unit_138 (by decide +kernel) rfl ?_
                  refine hr_cmp C 147 dX12_unit_140 (by decide) ⟨by omega, by omega⟩ ⟨by omega, by omega⟩ rfl (fun c140 => ?_) (fun c140 => ?_)
                  · have c140 : ¬ (vi w 0 37 : Int) = 7 := c140
                    rcases hb2 with rfl | rfl
                    · rcases hb3 with rfl | rfl
                      · refine hr_pick (lv' := [(0, .ref r), (2, zv 0), (3, zv 0), (4, zv (c0))]) [0, 1, 2, 3] rfl ?_
                        exact k147_00 _ _ how sm ei (by omega) ⟨by have : vi w 0 39 = vi w 0 39 := rfl; omega, by have : vi w 0 37 = vi w 0 37 := rfl; omega, fun j => (show vi w 21 j = vi w 21 j from rfl).trans (hx3 j)⟩ hc (by omega)
                      · refine hr_pick (lv' := [(0, .ref r), (2, zv 0), (3, zv 1), (4, zv (c0))]) [0, 1, 2, 3] rfl ?_
                        exact k147_01 _ _ how sm ei (by omega) ⟨by have : vi w 0 39 = vi w 0 39 := rfl; omega, by have : vi w 0 37 = vi w 0 37 := rfl; omega, fun j => (show vi w 21 j = vi w 21 j from rfl).trans (hx3 j)⟩ hc (by omega)
                    · refine hr_pick (lv' := [(0, .ref r), (2, zv 1), (4, zv (c0))]) [0, 1, 3] rfl ?_
                      exact k147_1 _ _ how sm ei (by omega) ⟨by have : vi w 0 39 = vi w 0 39 := rfl; omega, by have : vi w 0 37 = vi w 0 37 := rfl; omega, fun j => (show vi w 21 j = vi w 21 j from rfl).trans (hx3 j)⟩ hc (by omega)
                  · have c140 : (vi w 0 37 : Int) = 7 := c140
                    refine hr_aln C 0 dX12_unit_143 rfl rfl rfl ?_
                    refine hr_cV (As := []) (rest := []) C (hM_fx (km295 h)) ⟨by decide, by decide⟩ iV_X12_misplaced g_X12_248 TM0 hr0 dX12_unit_144 rfl rfl (Nat.le_of_ble_eq_true rfl) rfl ⟨(ty_cons (ok_r hr0 (by decide) (by decide)) ty_nil), ⟨_, rfl⟩⟩ (fun w141 rv o142 q143 => ?_)
                    obtain ⟨s144, po, hpo145, hrv146, hty147, rt, hfs148⟩ := q143
                    replace s144 : fx_sm (gsM, TM, cy, fun _ => True) [(12, 4), (12, 5)] w w141 := s144
                    simp only [km295_c, List.mem_cons, List.not_mem_nil, or_false] at hpo145
                    subst hpo145
                    obtain rfl := hrv146
                    have hf149 := fs_t hnd o142 hr0 rfl hfs148
                    refine hr_norm (st' := []) rfl ?_
                    rcases hb2 with rfl | rfl
                    · rcases hb3 with rfl | rfl
                      · refine hr_pick (lv' := [(0, .ref r), (2, zv 0), (3, zv 0), (4, zv (c0))]) [0, 1, 2, 3] rfl ?_
                        exact k147_00 _ _ o142 (fx_sm_tr sm s144 (by decide)) (EI_fr how o142 s144 (by decide) ei) (by rw [sm_f how o142 s144 (by decide)]; omega) ⟨by have : vi w141 0 39 = vi w 0 39 := (by rw [sm_f how o142 s144 (by decide)]); omega, by have : vi w141 0 37 = vi w 0 37 := (by rw [sm_f how o142 s144 (by decide)]); omega, fun j => (show vi w141 21 j = vi w 21 j from by rw [sm_a how o142 s144 TMa_21 (by decide)]).trans (hx3 j)⟩ hc (by omega)
                      · refine hr_pick (lv' := [(0, .ref r), (2, zv 0), (3, zv 1), (4, zv (c0))]) [0, 1, 2, 3] rfl ?_
                        exact k147_01 _ _ o142 (fx_sm_tr sm s144 (by decide)) (EI_fr how o142 s144 (by decide) ei) (by rw [sm_f how o142 s144 (by decide)]; omega) ⟨by have : vi w141 0 39 = vi w 0 39 := (by rw [sm_f how o142 s144 (by decide)]); omega, by have : vi w141 0 37 = vi w 0 37 := (by rw [sm_f how o142 s144 (by decide)]); omega, fun j => (show vi w141 21 j = vi w 21 j from by rw [sm_a how o142 s144 TMa_21 (by decide)]).trans (hx3 j)⟩ hc (by omega)
                    · refine hr_pick (lv' := [(0, .ref r), (2, zv 1), (4, zv (c0))]) [0, 1, 3] rfl ?_
                      exact k147_1 _ _ o142 (fx_sm_tr sm s144 (by decide)) (EI_fr how o142 s144 (by decide) ei) (by rw [sm_f how o142 s144 (by decide)]; omega) ⟨by have : vi w141 0 39 = vi w 0 39 := (by rw [sm_f how o142 s144 (by decide)]); omega, by have : vi w141 0 37 = vi w 0 37 := (by rw [sm_f how o142 s144 (by decide)]); omega, fun j => (show vi w141 21 j = vi w 21 j from by rw [sm_a how o142 s144 TMa_21 (by decide)]).trans (hx3 j)⟩ hc (by omega)
  have k70 : ∀ (w : va_W) (bb2 bb3 c0 : Int), fx_wo (gsM, TM, cy, fun _ => True) ad w → fx_sm (gsM, TM, cy, fun _ => True) [(12, 4), (12, 5), (12, 6), (12, 7), (12, 8), (12, 9), (12, 10), (12, 36), (12, 37), (12, 38), (12, 39), (1000, 6), (1000, 21), (1000, 22), (1000, 23), (1000, 24)] ws w → EI w f 0 → vi w 0 7 ≤ 1600 → (vi w 0 39 = vi ws 0 39 ∧ vi w 0 37 = vi ws 0 37 ∧ ∀ j, vi w 21 j = vi ws 21 j) → (bb2 = 0 ∨ bb2 = 1) → (bb3 = 0 ∨ bb3 = 1) → (c0 = 0 ∨ (97 ≤ c0 ∧ c0 ≤ 122)) → HW l E ad D cy (va_A ws s.heap.size) s.heap p e ({ frames := 2, cells := 0, slots := 0, locals := 44 }) s m ([.ref r]).toArray below meth c (MQ below (hQ ad D cy (fun _ ws rv ws1 => fx_sm (gsM, TM, cy, fun _ => True) [(12, 4), (12, 5), (12, 6), (12, 7), (12, 8), (12, 9), (12, 10), (12, 36), (12, 37), (12, 38), (12, 39), (1000, 6), (1000, 21), (1000, 22), (1000, 23), (1000, 24)] ws ws1 ∧ (∃ z, rv = some (zv z) ∧ (z = 0 ∨ z = 1) ∧ EI ws1 f (1 - z) ∧ (1 ≤ vi ws1 0 4 ∨ (z = 1 ∧ vi ws1 0 39 = vi ws 0 39 ∧ vi ws1 0 37 = vi ws 0 37 + 1) ∨ vi ws1 0 39 = vi ws 0 39 + 1)) ∧ vi ws1 0 7 ≤ 1600 ∧ FRc ws ws1 f) ([.ref r]) ws s.heap.size) ([.ref r]).toArray s 0 0 (va_A ws s.heap.size)) cX12_unit 7 yX12_unit.cls 70 [(0, .ref r), (2, zv bb2), (3, zv bb3), (4, zv c0)] [] w := by
    intro w bb2 bb3 c0 how sm ei he ⟨hx1, hx2, hx3⟩ hb2 hb3 hc
    have ei0 := ei
    unfold EI at ei0
    obtain ⟨-, -, -, -, ⟨u1, u2⟩, -⟩ := ei0
    refine hr_aln C 0 dX12_unit_70 rfl rfl rfl ?_
    refine hr_gA (g := 6) C hr0 TM0 rfl (by decide) fl_X12_30 dX12_unit_71 rfl (fun a1 ha2 => ?_)
    refine hr_aln C 0 dX12_unit_74 rfl rfl rfl ?_
    refine hr_gI (lo := 0) (hi := 1) C hr0 TM0 rfl fl_X12_265 dX12_unit_75 rfl (fun b3 b4 => ?_)
    refine hr_ald C ha2 TMa_6 (by omega) (by omega) (by decide) dX12_unit_78 rfl (fun b5 b6 => ?_)
    have b5 := gp1 b5
    simp only [rg] at b6
    refine hr_bi C dX12_unit_79 (by decide +kernel) rfl ?_
    refine hr_cmp C 93 dX12_unit_81 (by decide) ⟨by omega, by omega⟩ ⟨by omega, by omega⟩ rfl (fun c7 => ?_) (fun c7 => ?_)
    · have c7 : (vi w 6 (Int.toNat (vi w 0 35)) : Int) = 60 := c7
      refine hr_ic C dX12_unit_93 rfl ?_
      refine hr_goto C 98 dX12_unit_94 (by decide) ?_
      refine hr_is (lv' := [(5, zv (1)), (0, .ref r), (2, zv (bb2)), (3, zv (bb3)), (4, zv (c0))]) C dX12_unit_98 (by decide) rfl rfl ?_
      refine hr_pick (lv' := [(0, .ref r), (2, zv (bb2)), (3, zv (bb3)), (4, zv (c0)), (5, zv (1))]) [1, 2, 3, 4, 0] rfl ?_
      exact k100 _ _ _ _ _ how sm ei (by omega) ⟨by have : vi w 0 39 = vi w 0 39 := rfl; omega, by have : vi w 0 37 = vi w 0 37 := rfl; omega, fun j => (show vi w 21 j = vi w 21 j from rfl).trans (hx3 j)⟩ hb2 hb3 hc (by omega) (by omega)
    · have c7 : ¬ (vi w 6 (Int.toNat (vi w 0 35)) : Int) = 60 := c7
      refine hr_aln C 0 dX12_unit_84 rfl rfl rfl ?_
      refine hr_gI (lo := -2147483648) (hi := 2147483647) C hr0 TM0 rfl fl_X12_311 dX12_unit_85 rfl (fun b8 b9 => ?_)
      refine hr_bi C dX12_unit_88 (by decide +kernel) rfl ?_
      refine hr_cmp C 97 dX12_unit_90 (by decide) ⟨by omega, by omega⟩ ⟨by omega, by omega⟩ rfl (fun c10 => ?_) (fun c10 => ?_)
      · have c10 : ¬ (vi w 0 39 : Int) = 30 := c10
        refine hr_ic C dX12_unit_97 rfl ?_
        refine hr_is (lv' := [(5, zv (0)), (0, .ref r), (2, zv (bb2)), (3, zv (bb3)), (4, zv (c0))]) C dX12_unit_98 (by decide) rfl rfl ?_
        refine hr_pick (lv' := [(0, .ref r), (2, zv (bb2)), (3, zv (bb3)), (4, zv (c0)), (5, zv (0))]) [1, 2, 3, 4, 0] rfl ?_
        exact k100 _ _ _ _ _ how sm ei (by omega) ⟨by have : vi w 0 39 = vi w 0 39 := rfl; omega, by have : vi w 0 37 = vi w 0 37 := rfl; omega, fun j => (show vi w 21 j = vi w 21 j from rfl).trans (hx3 j)⟩ hb2 hb3 hc (by omega) (by omega)
      · have c10 : (vi w 0 39 : Int) = 30 := c10
        refine hr_ic C dX12_unit_93 rfl ?_
        refine hr_goto C 98 dX12_unit_94 (by decide) ?_
        refine hr_is (lv' := [(5, zv (1)), (0, .ref r), (2, zv (bb2)), (3, zv (bb3)), (4, zv (c0))]) C dX12_unit_98 (by decide) rfl rfl ?_
        refine hr_pick (lv' := [(0, .ref r), (2, zv (bb2)), (3, zv (bb3)), (4, zv (c0)), (5, zv (1))]) [1, 2, 3, 4, 0] rfl ?_
        exact k100 _ _ _ _ _ how sm ei (by omega) ⟨by have : vi w 0 39 = vi w 0 39 := rfl; omega, by have : vi w 0 37 = vi w 0 37 := rfl; omega, fun j => (show vi w 21 j = vi w 21 j from rfl).trans (hx3 j)⟩ hb2 hb3 hc (by omega) (by omega)
  have k57 : ∀ (w : va_W) (bb2 : Int), fx_wo (gsM, TM, cy, fun _ => True) ad w → fx_sm (gsM, TM, cy, fun _ => True) [(12, 4), (12, 5), (12, 6), (12, 7), (12, 8), (12, 9), (12, 10), (12, 36), (12, 37), (12, 38), (12, 39), (1000, 6), (1000, 21), (1000, 22), (1000, 23), (1000, 24)] ws w → EI w f 0 → vi w 0 7 ≤ 1600 → (vi w 0 39 = vi ws 0 39 ∧ vi w 0 37 = vi ws 0 37 ∧ ∀ j, vi w 21 j = vi ws 21 j) → (bb2 = 0 ∨ bb2 = 1) → HW l E ad D cy (va_A ws s.heap.size) s.heap p e ({ frames := 2, cells := 0, slots := 0, locals := 44 }) s m ([.ref r]).toArray below meth c (MQ below (hQ ad D cy (fun _ ws rv ws1 => fx_sm (gsM, TM, cy, fun _ => True) [(12, 4), (12, 5), (12, 6), (12, 7), (12, 8), (12, 9), (12, 10), (12, 36), (12, 37), (12, 38), (12, 39), (1000, 6), (1000, 21), (1000, 22), (1000, 23), (1000, 24)] ws ws1 ∧ (∃ z, rv = some (zv z) ∧ (z = 0 ∨ z = 1) ∧ EI ws1 f (1 - z) ∧ (1 ≤ vi ws1 0 4 ∨ (z = 1 ∧ vi ws1 0 39 = vi ws 0 39 ∧ vi ws1 0 37 = vi ws 0 37 + 1) ∨ vi ws1 0 39 = vi ws 0 39 + 1)) ∧ vi ws1 0 7 ≤ 1600 ∧ FRc ws ws1 f) ([.ref r]) ws s.heap.size) ([.ref r]).toArray s 0 0 (va_A ws s.heap.size)) cX12_unit 7 yX12_unit.cls 57 [(0, .ref r), (2, zv bb2)] [] w := by
    intro w bb2 how sm ei he ⟨hx1, hx2, hx3⟩ hb2
    refine hr_aln C 0 dX12_unit_57 rfl rfl rfl ?_
    refine hr_bi C dX12_unit_58 (by decide +kernel) rfl ?_
    refine hr_cV (As := [zv (40)]) (rest := []) C (h_isSignHere h r (40) hr0 ⟨by omega, by omega⟩) ⟨by decide, by decide⟩ iV_X12_isSignHere g_X12_262 TM0 hr0 dX12_unit_60 rfl rfl (Nat.le_of_ble_eq_true rfl) rfl ⟨rfl, trivial⟩ (fun w1 rv o2 q3 => ?_)
    obtain ⟨rfl, rfl⟩ := q3
    obtain ⟨t4, et5⟩ : ∃ t, t = (if vi w 0 8 = 5 ∧ sgv w (vi w 0 6) = 40 then 1 else 0 : Int) := ⟨_, rfl⟩
    rw [← et5]
    have e6 : (t4 = 1 ∧ (vi w 0 8 = 5 ∧ sgv w (vi w 0 6) = 40)) ∨ (t4 = 0 ∧ ¬ (vi w 0 8 = 5 ∧ sgv w (vi w 0 6) = 40)) := by rw [et5]; split <;> simp_all
    clear et5
    refine hr_norm (st' := [zv (t4)]) rfl ?_
    refine hr_isn (lv' := [(3, zv (t4)), (0, .ref r), (2, zv (bb2))]) C dX12_unit_63 rfl (by decide) rfl rfl ?_
    refine hr_aln C 1 dX12_unit_64 rfl rfl rfl ?_
    refine hr_cV (As := []) (rest := []) C (hM_fx (km300 h)) ⟨by decide, by decide⟩ iV_X12_wordHere g_X12_332 TM0 hr0 dX12_unit_65 rfl rfl (Nat.le_of_ble_eq_true rfl) rfl ⟨(ty_cons (ok_r hr0 (by decide) (by decide)) ty_nil), ⟨_, rfl⟩⟩ (fun w7 rv o8 q9 => ?_)
    obtain ⟨s10, po, hpo11, hrv12, hty13, rt, hfs14⟩ := q9
    replace s10 : fx_sm (gsM, TM, cy, fun _ => True) [] w w7 := s10
    simp only [km300_c, List.mem_cons, List.not_mem_nil, or_false] at hpo11
    rcases hpo11 with rfl | rfl | rfl | rfl | rfl | rfl | rfl
    · obtain ⟨v15, rfl, hv16⟩ := hrv12
      obtain ⟨z17, rfl, b18, b19, b20⟩ := ok_iz hv16
      simp only [rg] at b20
      obtain rfl : z17 = 119 := by omega
      have hf21 := fs_t hnd o8 hr0 rfl hfs14
      refine hr_norm (st' := [zv (119)]) rfl ?_
      refine hr_is (lv' := [(4, zv (119)), (3, zv (t4)), (0, .ref r), (2, zv (bb2))]) C dX12_unit_68 (by decide) rfl rfl ?_
      refine hr_pick (lv' := [(0, .ref r), (2, zv (bb2)), (3, zv (t4)), (4, zv (119))]) [2, 3, 1, 0] rfl ?_
      exact k70 _ _ _ _ o8 (fx_sm_tr sm s10 (by decide)) (EI_fr how o8 s10 (by decide) ei) (by rw [sm_f how o8 s10 (by decide)]; omega) ⟨by have : vi w7 0 39 = vi w 0 39 := (by rw [sm_f how o8 s10 (by decide)]); omega, by have : vi w7 0 37 = vi w 0 37 := (by rw [sm_f how o8 s10 (by decide)]); omega, fun j => (show vi w7 21 j = vi w 21 j from by rw [sm_a how o8 s10 TMa_21 (by decide)]).trans (hx3 j)⟩ hb2 (by omega) (by omega)
    · obtain ⟨v22, rfl, hv23⟩ := hrv12
      obtain ⟨z24, rfl, b25, b26, b27⟩ := ok_iz hv23
      simp only [rg] at b27
      obtain rfl : z24 = 112 := by omega
      have hf28 := fs_t hnd o8 hr0 rfl hfs14
      refine hr_norm (st' := [zv (112)]) rfl ?_
      refine hr_is (lv' := [(4, zv (112)), (3, zv (t4)), (0, .ref r), (2, zv (bb2))]) C dX12_unit_68 (by decide) rfl rfl ?_
      refine hr_pick (lv' := [(0, .ref r), (2, zv (bb2)), (3, zv (t4)), (4, zv (112))]) [2, 3, 1, 0] rfl ?_
      exact k70 _ _ _ _ o8 (fx_sm_tr sm s10 (by decide)) (EI_fr how o8 s10 (by decide) ei) (by rw [sm_f how o8 s10 (by decide)]; omega) ⟨by have : vi w7 0 39 = vi w 0 39 := (by rw [sm_f how o8 s10 (by decide)]); omega, by have : vi w7 0 37 = vi w 0 37 := (by rw [sm_f how o8 s10 (by decide)]); omega, fun j => (show vi w7 21 j = vi w 21 j from by rw [sm_a how o8 s10 TMa_21 (by decide)]).trans (hx3 j)⟩ hb2 (by omega) (by omega)
    · obtain ⟨v29, rfl, hv30⟩ := hrv12
      obtain ⟨z31, rfl, b32, b33, b34⟩ := ok_iz hv30
      simp only [rg] at b34
      obtain rfl : z31 = 115 := by omega
      have hf35 := fs_t hnd o8 hr0 rfl hfs14
      refine hr_norm (st' := [zv (115)]) rfl ?_
      refine hr_is (lv' := [(4, zv (115)), (3, zv (t4)), (0, .ref r), (2, zv (bb2))]) C dX12_unit_68 (by decide) rfl rfl ?_
      refine hr_pick (lv' := [(0, .ref r), (2, zv (bb2)), (3, zv (t4)), (4, zv (115))]) [2, 3, 1, 0] rfl ?_
      exact k70 _ _ _ _ o8 (fx_sm_tr sm s10 (by decide)) (EI_fr how o8 s10 (by decide) ei) (by rw [sm_f how o8 s10 (by decide)]; omega) ⟨by have : vi w7 0 39 = vi w 0 39 := (by rw [sm_f how o8 s10 (by decide)]); omega, by have : vi w7 0 37 = vi w 0 37 := (by rw [sm_f how o8 s10 (by decide)]); omega, fun j => (show vi w7 21 j = vi w 21 j from by rw [sm_a how o8 s10 TMa_21 (by decide)]).trans (hx3 j)⟩ hb2 (by omega) (by omega)
    · obtain ⟨v36, rfl, hv37⟩ := hrv12
      obtain ⟨z38, rfl, b39, b40, b41⟩ := ok_iz hv37
      simp only [rg] at b41
      obtain rfl : z38 = 116 := by omega
      have hf42 := fs_t hnd o8 hr0 rfl hfs14
      refine hr_norm (st' := [zv (116)]) rfl ?_
      refine hr_is (lv' := [(4, zv (116)), (3, zv (t4)), (0, .ref r), (2, zv (bb2))]) C dX12_unit_68 (by decide) rfl rfl ?_
      refine hr_pick (lv' := [(0, .ref r), (2, zv (bb2)), (3, zv (t4)), (4, zv (116))]) [2, 3, 1, 0] rfl ?_
      exact k70 _ _ _ _ o8 (fx_sm_tr sm s10 (by decide)) (EI_fr how o8 s10 (by decide) ei) (by rw [sm_f how o8 s10 (by decide)]; omega) ⟨by have : vi w7 0 39 = vi w 0 39 := (by rw [sm_f how o8 s10 (by decide)]); omega, by have : vi w7 0 37 = vi w 0 37 := (by rw [sm_f how o8 s10 (by decide)]); omega, fun j => (show vi w7 21 j = vi w 21 j from by rw [sm_a how o8 s10 TMa_21 (by decide)]).trans (hx3 j)⟩ hb2 (by omega) (by omega)
    · obtain ⟨v43, rfl, hv44⟩ := hrv12
      obtain ⟨z45, rfl, b46, b47, b48⟩ := ok_iz hv44
      simp only [rg] at b48
      obtain rfl : z45 = 108 := by omega
      have hf49 := fs_t hnd o8 hr0 rfl hfs14
      refine hr_norm (st' := [zv (108)]) rfl ?_
      refine hr_is (lv' := [(4, zv (108)), (3, zv (t4)), (0, .ref r), (2, zv (bb2))]) C dX12_unit_68 (by decide) rfl rfl ?_
      refine hr_pick (lv' := [(0, .ref r), (2, zv (bb2)), (3, zv (t4)), (4, zv (108))]) [2, 3, 1, 0] rfl ?_
      exact k70 _ _ _ _ o8 (fx_sm_tr sm s10 (by decide)) (EI_fr how o8 s10 (by decide) ei) (by rw [sm_f how o8 s10 (by decide)]; omega) ⟨by have : vi w7 0 39 = vi w 0 39 := (by rw [sm_f how o8 s10 (by decide)]); omega, by have : vi w7 0 37 = vi w 0 37 := (by rw [sm_f how o8 s10 (by decide)]); omega, fun j => (show vi w7 21 j = vi w 21 j from by rw [sm_a how o8 s10 TMa_21 (by decide)]).trans (hx3 j)⟩ hb2 (by omega) (by omega)
    · obtain ⟨v50, rfl, hv51⟩ := hrv12
      obtain ⟨z52, rfl, b53, b54, b55⟩ := ok_iz hv51
      simp only [rg] at b55
      obtain rfl : z52 = 114 := by omega
      have hf56 := fs_t hnd o8 hr0 rfl hfs14
      refine hr_norm (st' := [zv (114)]) rfl ?_
      refine hr_is (lv' := [(4, zv (114)), (3, zv (t4)), (0, .ref r), (2, zv (bb2))]) C dX12_unit_68 (by decide) rfl rfl ?_
      refine hr_pick (lv' := [(0, .ref r), (2, zv (bb2)), (3, zv (t4)), (4, zv (114))]) [2, 3, 1, 0] rfl ?_
      exact k70 _ _ _ _ o8 (fx_sm_tr sm s10 (by decide)) (EI_fr how o8 s10 (by decide) ei) (by rw [sm_f how o8 s10 (by decide)]; omega) ⟨by have : vi w7 0 39 = vi w 0 39 := (by rw [sm_f how o8 s10 (by decide)]); omega, by have : vi w7 0 37 = vi w 0 37 := (by rw [sm_f how o8 s10 (by decide)]); omega, fun j => (show vi w7 21 j = vi w 21 j from by rw [sm_a how o8 s10 TMa_21 (by decide)]).trans (hx3 j)⟩ hb2 (by omega) (by omega)
    · obtain ⟨v57, rfl, hv58⟩ := hrv12
      obtain ⟨z59, rfl, b60, b61, b62⟩ := ok_iz hv58
      simp only [rg] at b62
      obtain rfl : z59 = 0 := by omega
      refine hr_norm (st' := [zv (0)]) rfl ?_
      refine hr_is (lv' := [(4, zv (0)), (3, zv (t4)), (0, .ref r), (2, zv (bb2))]) C dX12_unit_68 (by decide) rfl rfl ?_
      refine hr_pick (lv' := [(0, .ref r), (2, zv (bb2)), (3, zv (t4)), (4, zv (0))]) [2, 3, 1, 0] rfl ?_
      exact k70 _ _ _ _ o8 (fx_sm_tr sm s10 (by decide)) (EI_fr how o8 s10 (by decide) ei) (by rw [sm_f how o8 s10 (by decide)]; omega) ⟨by have : vi w7 0 39 = vi w 0 39 := (by rw [sm_f how o8 s10 (by decide)]); omega, by have : vi w7 0 37 = vi w 0 37 := (by rw [sm_f how o8 s10 (by decide)]); omega, fun j => (show vi w7 21 j = vi w 21 j from by rw [sm_a how o8 s10 TMa_21 (by decide)]).trans (hx3 j)⟩ hb2 (by omega) (by omega)
  have k37 : ∀ (w : va_W) (bb1 : Int), fx_wo (gsM, TM, cy, fun _ => True) ad w → fx_sm (gsM, TM, cy, fun _ => True) [(12, 4), (12, 5), (12, 6), (12, 7), (12, 8), (12, 9), (12, 10), (12, 36), (12, 37), (12, 38), (12, 39), (1000, 6), (1000, 21), (1000, 22), (1000, 23), (1000, 24)] ws w → EI w f 0 → vi w 0 7 ≤ 1600 → (vi w 0 39 = vi ws 0 39 ∧ vi w 0 37 = vi ws 0 37 ∧ ∀ j, vi w 21 j = vi ws 21 j) → (bb1 = 0 ∨ bb1 = 1) → HW l E ad D cy (va_A ws s.heap.size) s.heap p e ({ frames := 2, cells := 0, slots := 0, locals := 44 }) s m ([.ref r]).toArray below meth c (MQ below (hQ ad D cy (fun _ ws rv ws1 => fx_sm (gsM, TM, cy, fun _ => True) [(12, 4), (12, 5), (12, 6), (12, 7), (12, 8), (12, 9), (12, 10), (12, 36), (12, 37), (12, 38), (12, 39), (1000, 6), (1000, 21), (1000, 22), (1000, 23), (1000, 24)] ws ws1 ∧ (∃ z, rv = some (zv z) ∧ (z = 0 ∨ z = 1) ∧ EI ws1 f (1 - z) ∧ (1 ≤ vi ws1 0 4 ∨ (z = 1 ∧ vi ws1 0 39 = vi ws 0 39 ∧ vi ws1 0 37 = vi ws 0 37 + 1) ∨ vi ws1 0 39 = vi ws 0 39 + 1)) ∧ vi ws1 0 7 ≤ 1600 ∧ FRc ws ws1 f) ([.ref r]) ws s.heap.size) ([.ref r]).toArray s 0 0 (va_A ws s.heap.size)) cX12_unit 7 yX12_unit.cls 37 [(0, .ref r), (1, zv bb1)] [] w := by
    intro w bb1 how sm ei he ⟨hx1, hx2, hx3⟩ hb1
    refine hr_iln C 1 dX12_unit_37 rfl rfl rfl ?_
    refine hr_if C 55 dX12_unit_38 (by decide) ⟨by omega, by omega⟩ rfl (fun c1 => ?_) (fun c1 => ?_)
    · have c1 : (bb1 : Int) = 0 := c1
      refine hr_ic C dX12_unit_55 rfl ?_
      refine hr_isn (lv' := [(2, zv (0)), (0, .ref r), (1, zv (bb1))]) C dX12_unit_56 rfl (by decide) rfl rfl ?_
      refine hr_pick (lv' := [(0, .ref r), (2, zv (0))]) [1, 0] rfl ?_
      exact k57 _ _ how sm ei (by omega) ⟨by have : vi w 0 39 = vi w 0 39 := rfl; omega, by have : vi w 0 37 = vi w 0 37 := rfl; omega, fun j => (show vi w 21 j = vi w 21 j from rfl).trans (hx3 j)⟩ (by omega)
    · have c1 : ¬ (bb1 : Int) = 0 := c1
      refine hr_aln C 0 dX12_unit_41 rfl rfl rfl ?_
      refine hr_ld2 C kc_X12_201 dX12_unit_42 rfl ?_
      refine hr_cV (As := [.long (Int64.ofInt 7237492)]) (rest := []) C (hM_fx (km299 h)) ⟨by decide, by decide⟩ iV_X12_isWord g_X12_251 TM0 hr0 dX12_unit_45 rfl rfl (Nat.le_of_ble_eq_true rfl) rfl ⟨(ty_cons (ok_r hr0 (by decide) (by decide)) (ty_cons (ok_l _) ty_nil)), ⟨_, rfl⟩⟩ (fun w2 rv o3 q4 => ?_)
      obtain ⟨s5, po, hpo6, hrv7, hty8, rt, hfs9⟩ := q4
      replace s5 : fx_sm (gsM, TM, cy, fun _ => True) [] w w2 := s5
      simp only [km299_c, List.mem_cons, List.not_mem_nil, or_false] at hpo6
      rcases hpo6 with rfl | rfl
      · obtain ⟨v10, rfl, hv11⟩ := hrv7
        obtain ⟨z12, rfl, b13, b14, b15⟩ := ok_iz hv11
        simp only [rg] at b15
        obtain rfl : z12 = 0 := by omega
        refine hr_norm (st' := [zv (0)]) rfl ?_
        refine hr_if C 55 dX12_unit_48 (by decide) ⟨by omega, by omega⟩ rfl (fun c16 => ?_) (fun c16 => absurd (show ¬ (0 : Int) = 0 from c16) (by omega))
        have c16 : (0 : Int) = 0 := c16
        refine hr_ic C dX12_unit_55 rfl ?_
        refine hr_isn (lv' := [(2, zv (0)), (0, .ref r), (1, zv (bb1))]) C dX12_unit_56 rfl (by decide) rfl rfl ?_
        refine hr_pick (lv' := [(0, .ref r), (2, zv (0))]) [1, 0] rfl ?_
        exact k57 _ _ o3 (fx_sm_tr sm s5 (by decide)) (EI_fr how o3 s5 (by decide) ei) (by rw [sm_f how o3 s5 (by decide)]; omega) ⟨by have : vi w2 0 39 = vi w 0 39 := (by rw [sm_f how o3 s5 (by decide)]); omega, by have : vi w2 0 37 = vi w 0 37 := (by rw [sm_f how o3 s5 (by decide)]); omega, fun j => (show vi w2 21 j = vi w 21 j from by rw [sm_a how o3 s5 TMa_21 (by decide)]).trans (hx3 j)⟩ (by omega)
      · obtain ⟨v17, rfl, hv18⟩ := hrv7
        obtain ⟨z19, rfl, b20, b21, b22⟩ := ok_iz hv18
        simp only [rg] at b22
        obtain rfl : z19 = 1 := by omega
        have hf23 := fs_t hnd o3 hr0 rfl hfs9
        refine hr_norm (st' := [zv (1)]) rfl ?_
        refine hr_if C 55 dX12_unit_48 (by decide) ⟨by omega, by omega⟩ rfl (fun c24 => absurd (show (1 : Int) = 0 from c24) (by omega)) (fun c24 => ?_)
        have c24 : ¬ (1 : Int) = 0 := c24
        refine hr_ic C dX12_unit_51 rfl ?_
        refine hr_goto C 56 dX12_unit_52 (by decide) ?_
        refine hr_isn (lv' := [(2, zv (1)), (0, .ref r), (1, zv (bb1))]) C dX12_unit_56 rfl (by decide) rfl rfl ?_
        refine hr_pick (lv' := [(0, .ref r), (2, zv (1))]) [1, 0] rfl ?_
        exact k57 _ _ o3 (fx_sm_tr sm s5 (by decide)) (EI_fr how o3 s5 (by decide) ei) (by rw [sm_f how o3 s5 (by decide)]; omega) ⟨by have : vi w2 0 39 = vi w 0 39 := (by rw [sm_f how o3 s5 (by decide)]); omega, by have : vi w2 0 37 = vi w 0 37 := (by rw [sm_f how o3 s5 (by decide)]); omega, fun j => (show vi w2 21 j = vi w 21 j from by rw [sm_a how o3 s5 TMa_21 (by decide)]).trans (hx3 j)⟩ (by omega)
  have ei0 := ei
  unfold EI at ei0
  obtain ⟨⟨p1, p2, p3⟩, -⟩ := ei0
  refine hr_aln C 0 dX12_unit_0 rfl rfl rfl ?_
  refine hr_gA (g := 23) C hr0 TM0 rfl (by decide) fl_X12_83 dX12_unit_1 rfl (fun a1 ha2 => ?_)
  refine hr_aln C 0 dX12_unit_4 rfl rfl rfl ?_
  refine hr_gI (lo := 0) (hi := 90) C hr0 TM0 rfl fl_X12_317 dX12_unit_5 rfl (fun b3 b4 => ?_)
  refine hr_ic C dX12_unit_8 rfl ?_
  refine hr_sub C dX12_unit_9 rfl ?_
  refine hr_ald C ha2 TMa_23 (by omega) (by omega) (by decide) dX12_unit_10 rfl (fun b5 b6 => ?_)
  have b5 := gp1 b5
  simp only [rg] at b6
  refine hr_ic C dX12_unit_11 rfl ?_
  refine hr_cmp C 31 dX12_unit_12 (by decide) ⟨by omega, by omega⟩ ⟨by omega, by omega⟩ rfl (fun c7 => ?_) (fun c7 => ?_)
  · have c7 : (vi ws 23 (Int.toNat ((vi ws 0 38) - 1)) : Int) ≤ 3 := c7
    refine hr_ic C dX12_unit_31 rfl ?_
    refine hr_goto C 36 dX12_unit_32 (by decide) ?_
    refine hr_isn (lv' := [(1, zv (1)), (0, .ref r)]) C dX12_unit_36 rfl (by decide) rfl rfl ?_
    refine hr_pick (lv' := [(0, .ref r), (1, zv (1))]) [1, 0] rfl ?_
    exact k37 _ _ hwo fx_sm_refl ei he ⟨rfl, rfl, fun _ => rfl⟩ (by omega)
  · have c7 : (3 : Int) < vi ws 23 (Int.toNat ((vi ws 0 38) - 1)) := c7
    refine hr_aln C 0 dX12_unit_15 rfl rfl rfl ?_
    refine hr_gA (g := 23) C hr0 TM0 rfl (by decide) fl_X12_83 dX12_unit_16 rfl (fun a8 ha9 => ?_)
    refine hr_aln C 0 dX12_unit_19 rfl rfl rfl ?_
    refine hr_gI (lo := 0) (hi := 90) C hr0 TM0 rfl fl_X12_317 dX12_unit_20 rfl (fun b10 b11 => ?_)
    refine hr_ic C dX12_unit_23 rfl ?_
    refine hr_sub C dX12_unit_24 rfl ?_
    refine hr_ald C ha9 TMa_23 (by omega) (by omega) (by decide) dX12_unit_25 rfl (fun b12 b13 => ?_)
    have b12 := gp1 b12
    simp only [rg] at b13
    refine hr_bi C dX12_unit_26 (by decide +kernel) rfl ?_
    refine hr_cmp C 35 dX12_unit_28 (by decide) ⟨by omega, by omega⟩ ⟨by omega, by omega⟩ rfl (fun c14 => ?_) (fun c14 => ?_)
    · have c14 : (vi ws 23 (Int.toNat ((vi ws 0 38) - 1)) : Int) < 7 := c14
      refine hr_ic C dX12_unit_35 rfl ?_
      refine hr_isn (lv' := [(1, zv (0)), (0, .ref r)]) C dX12_unit_36 rfl (by decide) rfl rfl ?_
      refine hr_pick (lv' := [(0, .ref r), (1, zv (0))]) [1, 0] rfl ?_
      exact k37 _ _ hwo fx_sm_refl ei he ⟨rfl, rfl, fun _ => rfl⟩ (by omega)
    · have c14 : (7 : Int) ≤ vi ws 23 (Int.toNat ((vi ws 0 38) - 1)) := c14
      refine hr_ic C dX12_unit_31 rfl ?_
      refine hr_goto C 36 dX12_unit_32 (by decide) ?_
      refine hr_isn (lv' := [(1, zv (1)), (0, .ref r)]) C dX12_unit_36 rfl (by decide) rfl rfl ?_
      refine hr_pick (lv' := [(0, .ref r), (1, zv (1))]) [1, 0] rfl ?_
      exact k37 _ _ hwo fx_sm_refl ei he ⟨rfl, rfl, fun _ => rfl⟩ (by omega)
