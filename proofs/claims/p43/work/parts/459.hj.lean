theorem m_746 : Cond.methodLink RX12 338 yX12_rankHere ∈ wsL_law := in_wsL_law_r32 _ (List.mem_of_getElem? (i := 2) rfl)
theorem m_747 : Cond.instanceMethod yX12_rankHere ∈ wsL_law := in_wsL_law_r32 _ (List.mem_of_getElem? (i := 3) rfl)
theorem m_748 : Cond.selects RX12 yX12_rankHere yX12_rankHere ∈ wsL_law := in_wsL_law_r32 _ (List.mem_of_getElem? (i := 4) rfl)
theorem m_749 : Cond.code yX12_rankHere cX12_rankHere 1 (some .int) ∈ wsL_law := in_wsL_law_r32 _ (List.mem_of_getElem? (i := 5) rfl)
theorem m_750 : Cond.methodLink RX12 341 yX12_isCompared ∈ wsL_law := in_wsL_law_r32 _ (List.mem_of_getElem? (i := 6) rfl)
theorem m_751 : Cond.instanceMethod yX12_isCompared ∈ wsL_law := in_wsL_law_r32 _ (List.mem_of_getElem? (i := 7) rfl)
theorem m_752 : Cond.selects RX12 yX12_isCompared yX12_isCompared ∈ wsL_law := in_wsL_law_r32 _ (List.mem_of_getElem? (i := 8) rfl)
theorem m_753 : Cond.code yX12_isCompared cX12_isCompared 2 (some .boolean) ∈ wsL_law := in_wsL_law_r32 _ (List.mem_of_getElem? (i := 9) rfl)
theorem iV_X12_rankHere : yX12_rankHere.cls = RX12 ∧ yX12_rankHere.cls ≠ "java/lang/invoke/MethodHandle" ∧ yX12_rankHere.cls ≠ "java/lang/invoke/VarHandle" ∧ (parseMethodDescriptor yX12_rankHere.desc).map (fun d => d.parameters.length) = some 0 := by decide +kernel
theorem iV_X12_isCompared : yX12_isCompared.cls = RX12 ∧ yX12_isCompared.cls ≠ "java/lang/invoke/MethodHandle" ∧ yX12_isCompared.cls ≠ "java/lang/invoke/VarHandle" ∧ (parseMethodDescriptor yX12_isCompared.desc).map (fun d => d.parameters.length) = some 0 := by decide +kernel
theorem g_X12_338 : GoodIn wsL_law (wsV RX12 338 RX12 yX12_rankHere (.code yX12_rankHere cX12_rankHere 1 (some .int) :: wsL_law)) := gdV m_746 m_747 m_748 m_5 m_749
theorem g_X12_341 : GoodIn wsL_law (wsV RX12 341 RX12 yX12_isCompared (.code yX12_isCompared cX12_isCompared 2 (some .boolean) :: wsL_law)) := gdV m_750 m_751 m_752 m_5 m_753
theorem dX12_behindUnit_104 : decode cX12_behindUnit 104 = .ok (.iload_n 1, 1) := by decide +kernel
theorem dX12_behindUnit_105 : decode cX12_behindUnit 105 = .ok (.ifCond .le 42, 3) := by decide +kernel
theorem dX12_behindUnit_147 : decode cX12_behindUnit 147 = .ok (.aload_n 0, 1) := by decide +kernel
theorem dX12_behindUnit_148 : decode cX12_behindUnit 148 = .ok (.dup, 1) := by decide +kernel
theorem dX12_behindUnit_149 : decode cX12_behindUnit 149 = .ok (.getfield 317, 3) := by decide +kernel
theorem dX12_behindUnit_152 : decode cX12_behindUnit 152 = .ok (.iconst 1, 1) := by decide +kernel
theorem dX12_behindUnit_153 : decode cX12_behindUnit 153 = .ok (.isub, 1) := by decide +kernel
theorem dX12_behindUnit_154 : decode cX12_behindUnit 154 = .ok (.putfield 317, 3) := by decide +kernel
theorem dX12_behindUnit_157 : decode cX12_behindUnit 157 = .ok (.aload_n 0, 1) := by decide +kernel
theorem dX12_behindUnit_158 : decode cX12_behindUnit 158 = .ok (.getfield 83, 3) := by decide +kernel
theorem dX12_behindUnit_161 : decode cX12_behindUnit 161 = .ok (.aload_n 0, 1) := by decide +kernel
theorem dX12_behindUnit_162 : decode cX12_behindUnit 162 = .ok (.getfield 317, 3) := by decide +kernel
theorem dX12_behindUnit_165 : decode cX12_behindUnit 165 = .ok (.iaload, 1) := by decide +kernel
theorem dX12_behindUnit_166 : decode cX12_behindUnit 166 = .ok (.bipush 7, 2) := by decide +kernel
theorem dX12_behindUnit_168 : decode cX12_behindUnit 168 = .ok (.if_icmp .ne 23, 3) := by decide +kernel
theorem dX12_behindUnit_191 : decode cX12_behindUnit 191 = .ok (.iconst 0, 1) := by decide +kernel
theorem dX12_behindUnit_192 : decode cX12_behindUnit 192 = .ok (.ireturn, 1) := by decide +kernel
theorem dX12_behindUnit_171 : decode cX12_behindUnit 171 = .ok (.aload_n 0, 1) := by decide +kernel
theorem dX12_behindUnit_172 : decode cX12_behindUnit 172 = .ok (.dup, 1) := by decide +kernel
theorem dX12_behindUnit_173 : decode cX12_behindUnit 173 = .ok (.getfield 320, 3) := by decide +kernel
theorem dX12_behindUnit_176 : decode cX12_behindUnit 176 = .ok (.iconst 1, 1) := by decide +kernel
theorem dX12_behindUnit_177 : decode cX12_behindUnit 177 = .ok (.isub, 1) := by decide +kernel
theorem dX12_behindUnit_178 : decode cX12_behindUnit 178 = .ok (.putfield 320, 3) := by decide +kernel
theorem dX12_behindUnit_181 : decode cX12_behindUnit 181 = .ok (.aload_n 0, 1) := by decide +kernel
theorem dX12_behindUnit_182 : decode cX12_behindUnit 182 = .ok (.aload_n 0, 1) := by decide +kernel
theorem dX12_behindUnit_183 : decode cX12_behindUnit 183 = .ok (.bipush 41, 2) := by decide +kernel
theorem dX12_behindUnit_185 : decode cX12_behindUnit 185 = .ok (.invokevirtual 262, 3) := by decide +kernel
theorem dX12_behindUnit_188 : decode cX12_behindUnit 188 = .ok (.invokevirtual 254, 3) := by decide +kernel
theorem dX12_behindUnit_108 : decode cX12_behindUnit 108 = .ok (.aload_n 0, 1) := by decide +kernel
theorem dX12_behindUnit_109 : decode cX12_behindUnit 109 = .ok (.iload_n 1, 1) := by decide +kernel
theorem dX12_behindUnit_110 : decode cX12_behindUnit 110 = .ok (.iload_n 1, 1) := by decide +kernel
theorem dX12_behindUnit_111 : decode cX12_behindUnit 111 = .ok (.iconst 2, 1) := by decide +kernel
theorem dX12_behindUnit_112 : decode cX12_behindUnit 112 = .ok (.if_icmp .ne 8, 3) := by decide +kernel
theorem dX12_behindUnit_120 : decode cX12_behindUnit 120 = .ok (.iload_n 1, 1) := by decide +kernel
theorem dX12_behindUnit_121 : decode cX12_behindUnit 121 = .ok (.iconst 1, 1) := by decide +kernel
theorem dX12_behindUnit_122 : decode cX12_behindUnit 122 = .ok (.if_icmp .ne 8, 3) := by decide +kernel
theorem dX12_behindUnit_130 : decode cX12_behindUnit 130 = .ok (.aload_n 0, 1) := by decide +kernel
theorem dX12_behindUnit_131 : decode cX12_behindUnit 131 = .ok (.aload_n 0, 1) := by decide +kernel
theorem dX12_behindUnit_132 : decode cX12_behindUnit 132 = .ok (.getfield 206, 3) := by decide +kernel
theorem dX12_behindUnit_135 : decode cX12_behindUnit 135 = .ok (.invokevirtual 209, 3) := by decide +kernel
theorem dX12_behindUnit_138 : decode cX12_behindUnit 138 = .ok (.invokevirtual 323, 3) := by decide +kernel
theorem dX12_behindUnit_141 : decode cX12_behindUnit 141 = .ok (.aload_n 0, 1) := by decide +kernel
theorem dX12_behindUnit_142 : decode cX12_behindUnit 142 = .ok (.invokevirtual 245, 3) := by decide +kernel
theorem dX12_behindUnit_145 : decode cX12_behindUnit 145 = .ok (.iconst 1, 1) := by decide +kernel
theorem dX12_behindUnit_146 : decode cX12_behindUnit 146 = .ok (.ireturn, 1) := by decide +kernel
theorem dX12_behindUnit_125 : decode cX12_behindUnit 125 = .ok (.bipush 124, 2) := by decide +kernel
theorem dX12_behindUnit_127 : decode cX12_behindUnit 127 = .ok (.goto 11, 3) := by decide +kernel
theorem dX12_behindUnit_115 : decode cX12_behindUnit 115 = .ok (.bipush 38, 2) := by decide +kernel
theorem dX12_behindUnit_117 : decode cX12_behindUnit 117 = .ok (.goto 21, 3) := by decide +kernel
theorem dX12_behindUnit_23 : decode cX12_behindUnit 23 = .ok (.aload_n 0, 1) := by decide +kernel
theorem dX12_behindUnit_24 : decode cX12_behindUnit 24 = .ok (.getfield 83, 3) := by decide +kernel
theorem dX12_behindUnit_27 : decode cX12_behindUnit 27 = .ok (.aload_n 0, 1) := by decide +kernel
theorem dX12_behindUnit_28 : decode cX12_behindUnit 28 = .ok (.getfield 317, 3) := by decide +kernel
theorem dX12_behindUnit_31 : decode cX12_behindUnit 31 = .ok (.iconst 1, 1) := by decide +kernel
theorem dX12_behindUnit_32 : decode cX12_behindUnit 32 = .ok (.isub, 1) := by decide +kernel
theorem dX12_behindUnit_33 : decode cX12_behindUnit 33 = .ok (.iaload, 1) := by decide +kernel
theorem dX12_behindUnit_34 : decode cX12_behindUnit 34 = .ok (.bipush 6, 2) := by decide +kernel
theorem dX12_behindUnit_36 : decode cX12_behindUnit 36 = .ok (.if_icmp .gt 68, 3) := by decide +kernel
theorem dX12_behindUnit_39 : decode cX12_behindUnit 39 = .ok (.aload_n 0, 1) := by decide +kernel
theorem dX12_behindUnit_40 : decode cX12_behindUnit 40 = .ok (.getfield 83, 3) := by decide +kernel
theorem dX12_behindUnit_43 : decode cX12_behindUnit 43 = .ok (.aload_n 0, 1) := by decide +kernel
theorem dX12_behindUnit_44 : decode cX12_behindUnit 44 = .ok (.getfield 317, 3) := by decide +kernel
theorem dX12_behindUnit_47 : decode cX12_behindUnit 47 = .ok (.iconst 1, 1) := by decide +kernel
theorem dX12_behindUnit_48 : decode cX12_behindUnit 48 = .ok (.isub, 1) := by decide +kernel
theorem dX12_behindUnit_49 : decode cX12_behindUnit 49 = .ok (.iaload, 1) := by decide +kernel
theorem dX12_behindUnit_50 : decode cX12_behindUnit 50 = .ok (.iload_n 1, 1) := by decide +kernel
theorem dX12_behindUnit_51 : decode cX12_behindUnit 51 = .ok (.if_icmp .lt 53, 3) := by decide +kernel
theorem dX12_behindUnit_54 : decode cX12_behindUnit 54 = .ok (.aload_n 0, 1) := by decide +kernel
theorem dX12_behindUnit_55 : decode cX12_behindUnit 55 = .ok (.dup, 1) := by decide +kernel
theorem dX12_behindUnit_56 : decode cX12_behindUnit 56 = .ok (.getfield 317, 3) := by decide +kernel
theorem dX12_behindUnit_59 : decode cX12_behindUnit 59 = .ok (.iconst 1, 1) := by decide +kernel
theorem dX12_behindUnit_60 : decode cX12_behindUnit 60 = .ok (.isub, 1) := by decide +kernel
theorem dX12_behindUnit_61 : decode cX12_behindUnit 61 = .ok (.putfield 317, 3) := by decide +kernel
theorem dX12_behindUnit_64 : decode cX12_behindUnit 64 = .ok (.aload_n 0, 1) := by decide +kernel
theorem dX12_behindUnit_65 : decode cX12_behindUnit 65 = .ok (.getfield 83, 3) := by decide +kernel
theorem dX12_behindUnit_68 : decode cX12_behindUnit 68 = .ok (.aload_n 0, 1) := by decide +kernel
theorem dX12_behindUnit_69 : decode cX12_behindUnit 69 = .ok (.getfield 317, 3) := by decide +kernel
theorem dX12_behindUnit_72 : decode cX12_behindUnit 72 = .ok (.iaload, 1) := by decide +kernel
theorem dX12_behindUnit_73 : decode cX12_behindUnit 73 = .ok (.iconst 3, 1) := by decide +kernel
theorem dX12_behindUnit_74 : decode cX12_behindUnit 74 = .ok (.if_icmp .ne 13, 3) := by decide +kernel
theorem dX12_behindUnit_87 : decode cX12_behindUnit 87 = .ok (.aload_n 0, 1) := by decide +kernel
theorem dX12_behindUnit_88 : decode cX12_behindUnit 88 = .ok (.aload_n 0, 1) := by decide +kernel
theorem dX12_behindUnit_89 : decode cX12_behindUnit 89 = .ok (.getfield 86, 3) := by decide +kernel
theorem dX12_behindUnit_92 : decode cX12_behindUnit 92 = .ok (.aload_n 0, 1) := by decide +kernel
theorem dX12_behindUnit_93 : decode cX12_behindUnit 93 = .ok (.getfield 317, 3) := by decide +kernel
theorem dX12_behindUnit_96 : decode cX12_behindUnit 96 = .ok (.iaload, 1) := by decide +kernel
theorem dX12_behindUnit_97 : decode cX12_behindUnit 97 = .ok (.iconst 0, 1) := by decide +kernel
theorem dX12_behindUnit_98 : decode cX12_behindUnit 98 = .ok (.invokevirtual 335, 3) := by decide +kernel
theorem dX12_behindUnit_101 : decode cX12_behindUnit 101 = .ok (.goto (-78), 3) := by decide +kernel
theorem dX12_behindUnit_77 : decode cX12_behindUnit 77 = .ok (.aload_n 0, 1) := by decide +kernel
theorem dX12_behindUnit_78 : decode cX12_behindUnit 78 = .ok (.dup, 1) := by decide +kernel
theorem dX12_behindUnit_79 : decode cX12_behindUnit 79 = .ok (.getfield 320, 3) := by decide +kernel
theorem dX12_behindUnit_82 : decode cX12_behindUnit 82 = .ok (.iconst 1, 1) := by decide +kernel
theorem dX12_behindUnit_83 : decode cX12_behindUnit 83 = .ok (.isub, 1) := by decide +kernel
theorem dX12_behindUnit_84 : decode cX12_behindUnit 84 = .ok (.putfield 320, 3) := by decide +kernel
theorem dX12_behindUnit_0 : decode cX12_behindUnit 0 = .ok (.aload_n 0, 1) := by decide +kernel
theorem dX12_behindUnit_1 : decode cX12_behindUnit 1 = .ok (.invokevirtual 338, 3) := by decide +kernel
theorem dX12_behindUnit_4 : decode cX12_behindUnit 4 = .ok (.istore_n 1, 1) := by decide +kernel
theorem dX12_behindUnit_5 : decode cX12_behindUnit 5 = .ok (.iload_n 1, 1) := by decide +kernel
theorem dX12_behindUnit_6 : decode cX12_behindUnit 6 = .ok (.iconst 4, 1) := by decide +kernel
theorem dX12_behindUnit_7 : decode cX12_behindUnit 7 = .ok (.if_icmp .ne 16, 3) := by decide +kernel
theorem dX12_behindUnit_10 : decode cX12_behindUnit 10 = .ok (.aload_n 0, 1) := by decide +kernel
theorem dX12_behindUnit_11 : decode cX12_behindUnit 11 = .ok (.invokevirtual 341, 3) := by decide +kernel
theorem dX12_behindUnit_14 : decode cX12_behindUnit 14 = .ok (.ifCond .eq 9, 3) := by decide +kernel
theorem dX12_behindUnit_17 : decode cX12_behindUnit 17 = .ok (.aload_n 0, 1) := by decide +kernel
theorem dX12_behindUnit_18 : decode cX12_behindUnit 18 = .ok (.invokevirtual 248, 3) := by decide +kernel
theorem dX12_behindUnit_21 : decode cX12_behindUnit 21 = .ok (.iconst 1, 1) := by decide +kernel
theorem dX12_behindUnit_22 : decode cX12_behindUnit 22 = .ok (.ireturn, 1) := by decide +kernel
theorem sgv_c {w w' : va_W} (h3 : vi w' 0 3 = vi w 0 3) (h6 : vi w' 0 6 = vi w 0 6) (a2 : ∀ j, vi w' 2 j = vi w 2 j) : sgv w' (vi w' 0 6) = sgv w (vi w 0 6) := by
  unfold sgv
  rw [h3, h6, a2]
theorem FRc_tr {a b c : va_W} {f : Nat} (h1 : FRc a b f) (h2 : FRc b c f) : FRc a c f := fun j hj => (h2 j hj).trans (h1 j hj)
theorem FRc_eq {a b : va_W} {f : Nat} (h : ∀ j, vi b 21 j = vi a 21 j) : FRc a b f := fun j _ => h j
set_option maxRecDepth 100000 in
set_option maxHeartbeats 4000000 in
theorem h_behindUnit {l : Launch} {E : (Nat → Prop) → State → Prop} {ad : List Nat} {D : va_G} {cy : Nat → ClassId} (h : fx_env E D classes (tys cy) nestW) (r f : Nat) (hr0 : ad[0]? = some r) (hf : f ≤ 560) : hM l yX12_behindUnit cX12_behindUnit 2 (some .boolean) ({ frames := 3, cells := 0, slots := 0, locals := 65 }) E ad D cy (fun av ws => av = [.ref r] ∧ EI ws f 1 ∧ vi ws 0 7 ≤ 1600) (fun _ ws rv ws1 => fx_sm (gsM, TM, cy, fun _ => True) [(12, 4), (12, 5), (12, 6), (12, 7), (12, 8), (12, 9), (12, 10), (12, 36), (12, 37), (12, 38), (12, 39), (1000, 6), (1000, 21), (1000, 22), (1000, 23), (1000, 24)] ws ws1 ∧ vi ws1 0 7 ≤ 1600 ∧ FRc ws ws1 f ∧ vi ws1 0 39 = vi ws 0 39 ∧ ∃ z, rv = some (zv z) ∧ ((z = 1 ∧ 1 ≤ vi ws1 0 4 ∧ EI ws1 f 1) ∨ (z = 1 ∧ EI ws1 f 0) ∨ (z = 0 ∧ vi ws1 0 38 < vi ws 0 38 ∧ (EI ws1 f 1 ∨ (vi ws1 0 38 = 0 ∧ wfc (vi ws1 21) f (vi ws1 0 36).toNat ∧ (f : Int) ≤ vi ws1 0 36 ∧ vi ws1 0 36 ≤ f + 560))))) := by
  refine hM_of h (by decide) ?_
  intro av ws p e s m below meth c hwo hnd hpre hlocks hr C
  obtain ⟨rfl, hpre⟩ := hpre
  refine ⟨Nat.le_of_ble_eq_true rfl, ?_⟩
  refine hr_pick (lv' := [(0, .ref r)]) [0] rfl ?_
  obtain ⟨ei, he⟩ := hpre
  have k104 : ∀ (z : Int) (w : va_W), fx_wo (gsM, TM, cy, fun _ => True) ad w → fx_sm (gsM, TM, cy, fun _ => True) [(12, 4), (12, 5), (12, 6), (12, 7), (12, 8), (12, 9), (12, 10), (12, 36), (12, 37), (12, 38), (12, 39), (1000, 6), (1000, 21), (1000, 22), (1000, 23), (1000, 24)] ws w → EI w f 1 → vi w 0 7 ≤ 1600 → FRc ws w f → vi w 0 39 = vi ws 0 39 → vi w 0 38 ≤ vi ws 0 38 → 0 ≤ z → z ≤ 6 → ¬ z = 3 → (4 ≤ z → opS (sgv w (vi w 0 6))) → (6 < vi w 23 (Int.toNat (vi w 0 38 - 1)) ∨ vi w 23 (Int.toNat (vi w 0 38 - 1)) < z) → HW l E ad D cy (va_A ws s.heap.size) s.heap p e ({ frames := 3, cells := 0, slots := 0, locals := 65 }) s m ([.ref r]).toArray below meth c (MQ below (hQ ad D cy (fun _ ws rv ws1 => fx_sm (gsM, TM, cy, fun _ => True) [(12, 4), (12, 5), (12, 6), (12, 7), (12, 8), (12, 9), (12, 10), (12, 36), (12, 37), (12, 38), (12, 39), (1000, 6), (1000, 21), (1000, 22), (1000, 23), (1000, 24)] ws ws1 ∧ vi ws1 0 7 ≤ 1600 ∧ FRc ws ws1 f ∧ vi ws1 0 39 = vi ws 0 39 ∧ ∃ z, rv = some (zv z) ∧ ((z = 1 ∧ 1 ≤ vi ws1 0 4 ∧ EI ws1 f 1) ∨ (z = 1 ∧ EI ws1 f 0) ∨ (z = 0 ∧ vi ws1 0 38 < vi ws 0 38 ∧ (EI ws1 f 1 ∨ (vi ws1 0 38 = 0 ∧ wfc (vi ws1 21) f (vi ws1 0 36).toNat ∧ (f : Int) ≤ vi ws1 0 36 ∧ vi ws1 0 36 ≤ f + 560))))) ([.ref r]) ws s.heap.size) ([.ref r]).toArray s 0 0 (va_A ws s.heap.size)) cX12_behindUnit 2 yX12_behindUnit.cls 104 [(0, .ref r), (1, zv z)] [] w := by
    intro z w how sm ei he hfr h39 h38 hz0 hz6 hz3 hop htop
    have ei0 := ei
    unfold EI at ei0
    obtain ⟨⟨p1, p2, p3⟩, q1, q2, ⟨w1, w2⟩, ⟨u1, u2⟩, f1, ⟨d1, d2⟩, k1, wf⟩ := ei0
    have cb1 := cn_b (q := q37) (e := vi w 23) (vi w 0 38).toNat
    have cb2 := cn_b (q := q3) (e := vi w 23) (vi w 0 38).toNat
    have q1k := q1 (Int.toNat (vi w 0 38 - 1))
    have e0 : vi w 0 38 = 1 → vi w 23 (Int.toNat (vi w 0 38 - 1)) = 8 := fun h => by rw [h]; exact p3
    have e1 : 1 ≤ Int.toNat (vi w 0 38 - 1) → 1 ≤ vi w 23 (Int.toNat (vi w 0 38 - 1)) ∧ vi w 23 (Int.toNat (vi w 0 38 - 1)) ≤ 7 := fun h => q1k h (by omega)
    clear q1k
    refine hr_iln C 1 dX12_behindUnit_104 rfl rfl rfl ?_
    refine hr_if C 147 dX12_behindUnit_105 (by decide) ⟨by omega, by omega⟩ rfl (fun c1 => ?_) (fun c1 => ?_)
    · have c1 : (z : Int) ≤ 0 := c1
      refine hr_aln C 0 dX12_behindUnit_147 rfl rfl rfl ?_
      refine hr_dup C dX12_behindUnit_148 rfl rfl ?_
      refine hr_gI (lo := 0) (hi := 90) C hr0 TM0 rfl fl_X12_317 dX12_behindUnit_149 rfl (fun b2 b3 => ?_)
      refine hr_ic C dX12_behindUnit_152 rfl ?_
      refine hr_sub C dX12_behindUnit_153 rfl ?_
      refine hr_pI (lo := 0) (hi := 90) C hr0 TM0 rfl ⟨by decide, by decide⟩ pl_X12_317 dX12_behindUnit_154 (by omega) (by omega) rfl (fun w4 o5 s6 e7 => ?_)
      refine hr_aln C 0 dX12_behindUnit_157 rfl rfl rfl ?_
      refine hr_gA (g := 23) C hr0 TM0 rfl (by decide) fl_X12_83 dX12_behindUnit_158 rfl (fun a8 ha9 => ?_)
      refine hr_aln C 0 dX12_behindUnit_161 rfl rfl rfl ?_
      refine hr_gI (lo := 0) (hi := 90) C hr0 TM0 rfl fl_X12_317 dX12_behindUnit_162 rfl (fun b10 b11 => ?_)
      have q12 : vi w4 0 38 = (vi w 0 38) - 1 := by rw [e7, if_pos ⟨rfl, rfl⟩]
      rw [q12] at b10 b11 ⊢
      refine hr_ald C ha9 TMa_23 (by omega) (by omega) (by decide) dX12_behindUnit_165 rfl (fun b13 b14 => ?_)
      have b13 := gp1 b13
      have q15 : vi w4 23 (Int.toNat ((vi w 0 38) - 1)) = vi w 23 (Int.toNat ((vi w 0 38) - 1)) := by rw [e7, if_neg (by omega)]
      rw [q15] at b13 b14 ⊢
      simp only [rg] at b14
      refine hr_bi C dX12_behindUnit_166 (by decide +kernel) rfl ?_
      refine hr_cmp C 191 dX12_behindUnit_168 (by decide) ⟨by omega, by omega⟩ ⟨by omega, by omega⟩ rfl (fun c16 => ?_) (fun c16 => ?_)
      · have c16 : ¬ (vi w 23 (Int.toNat ((vi w 0 38) - 1)) : Int) = 7 := c16
        refine hr_ic C dX12_behindUnit_191 rfl ?_
        have q38 : vi w4 0 38 = vi w 0 38 - 1 := (by rw [e7, if_pos ⟨rfl, rfl⟩])
        have q36 : vi w4 0 36 = vi w 0 36 := (by rw [e7, if_neg (by omega)])
        have q21 : vi w4 21 = vi w 21 := funext (fun j => (by rw [e7, if_neg (by omega)]))
        exact hr_zret C hlocks hr (by omega) dX12_behindUnit_192 ⟨(fx_sm_tr sm s6 (by decide)), (by rw [e7, if_neg (by omega)]; omega), FRc_tr hfr (FRc_eq (fun j => (by rw [e7, if_neg (by omega)]))), (show vi w4 0 39 = vi w 0 39 from (by rw [e7, if_neg (by omega)])).trans h39, _, rfl, Or.inr (Or.inr ⟨rfl, (by omega), Or.inr ⟨(by omega), (by rw [q21, q36]; exact wf), (by omega), (by omega)⟩⟩)⟩
      · have c16 : (vi w 23 (Int.toNat ((vi w 0 38) - 1)) : Int) = 7 := c16
        refine hr_aln C 0 dX12_behindUnit_171 rfl rfl rfl ?_
        refine hr_dup C dX12_behindUnit_172 rfl rfl ?_
        refine hr_gI (lo := -2147483648) (hi := 2147483647) C hr0 TM0 rfl fl_X12_320 dX12_behindUnit_173 rfl (fun b17 b18 => ?_)
        have q19 : vi w4 0 37 = vi w 0 37 := by rw [e7, if_neg (by omega)]
        rw [q19] at b17 b18 ⊢
        refine hr_ic C dX12_behindUnit_176 rfl ?_
        refine hr_sub C dX12_behindUnit_177 rfl ?_
        refine hr_pI (lo := -2147483648) (hi := 2147483647) C hr0 TM0 rfl ⟨by decide, by decide⟩ pl_X12_320 dX12_behindUnit_178 (by omega) (by omega) rfl (fun w20 o21 s22 e23 => ?_)
        refine hr_aln C 0 dX12_behindUnit_181 rfl rfl rfl ?_
        refine hr_aln C 0 dX12_behindUnit_182 rfl rfl rfl ?_
        refine hr_bi C dX12_behindUnit_183 (by decide +kernel) rfl ?_
        refine hr_cV (As := [zv (41)]) (rest := [.ref r]) C (h_isSignHere h r (41) hr0 ⟨by omega, by omega⟩) ⟨by decide, by decide⟩ iV_X12_isSignHere g_X12_262 TM0 hr0 dX12_behindUnit_185 rfl rfl (Nat.le_of_ble_eq_true rfl) rfl ⟨rfl, trivial⟩ (fun w24 rv o25 q26 => ?_)
        obtain ⟨rfl, rfl⟩ := q26
        obtain ⟨t27, et28⟩ : ∃ t, t = (if vi w20 0 8 = 5 ∧ sgv w20 (vi w20 0 6) = 41 then 1 else 0 : Int) := ⟨_, rfl⟩
        rw [← et28]
        have e29 : (t27 = 1 ∧ (vi w20 0 8 = 5 ∧ sgv w20 (vi w20 0 6) = 41)) ∨ (t27 = 0 ∧ ¬ (vi w20 0 8 = 5 ∧ sgv w20 (vi w20 0 6) = 41)) := by rw [et28]; split <;> simp_all
        clear et28
        refine hr_norm (st' := [zv (t27), .ref r]) rfl ?_
        have h7 : vi w20 0 7 = vi w 0 7 := (by rw [e23, if_neg (by omega)]; rw [e7, if_neg (by omega)])
        have h7b := fl_b (fi := 7) (lo := 0) (hi := 1601) how hr0 rfl
        refine hr_cV (As := [zv (t27)]) (rest := []) C (hM_fx (km296 h)) ⟨by decide, by decide⟩ iV_X12_must g_X12_254 TM0 hr0 dX12_behindUnit_188 rfl rfl (Nat.le_of_ble_eq_true rfl) rfl ⟨(ty_cons (ok_r hr0 (by decide) (by decide)) (ty_cons (ok_z (by decide) (by decide) (by omega) (by omega)) ty_nil)), (fs_f o21 hr0 rfl ⟨_, _, rfl⟩ (by omega) (by omega))⟩ (fun w30 rv o31 q32 => ?_)
        obtain ⟨s33, po, hpo34, hrv35, hty36, rt, hfs37⟩ := q32
        replace s33 : fx_sm (gsM, TM, cy, fun _ => True) [(12, 4), (12, 5), (12, 6), (12, 7), (12, 8), (12, 9), (12, 10)] w20 w30 := s33
        simp only [km296_c, List.mem_cons, List.not_mem_nil, or_false] at hpo34
        subst hpo34
        obtain rfl := hrv35
        have hf38 := fs_t hnd o31 hr0 rfl hfs37
        refine hr_norm (st' := []) rfl ?_
        refine hr_ic C dX12_behindUnit_191 rfl ?_
        exact hr_zret C hlocks hr (by omega) dX12_behindUnit_192 ⟨(fx_sm_tr (fx_sm_tr (fx_sm_tr sm s6 (by decide)) s22 (by decide)) s33 (by decide)), (by omega), FRc_tr hfr (FRc_eq (fun j => (by rw [sm_a o21 o31 s33 TMa_21 (by decide)]; rw [e23, if_neg (by omega)]; rw [e7, if_neg (by omega)]))), (show vi w30 0 39 = vi w 0 39 from (by rw [sm_f o21 o31 s33 (by decide)]; rw [e23, if_neg (by omega)]; rw [e7, if_neg (by omega)])).trans h39, _, rfl, Or.inr (Or.inr ⟨rfl, (by have q : vi w30 0 38 = vi w 0 38 - 1 := (by rw [sm_f o21 o31 s33 (by decide)]; rw [e23, if_neg (by omega)]; rw [e7, if_pos ⟨rfl, rfl⟩]); omega), Or.inl (EI_pop7 (k := (Int.toNat (vi w 0 38 - 1))) ei (by omega) (by rw [sm_f o21 o31 s33 (by decide)]; rw [e23, if_neg (by omega)]; rw [e7, if_neg (by omega)]) ((by rw [sm_f o21 o31 s33 (by decide)]; rw [e23, if_pos ⟨rfl, rfl⟩])) (by rw [sm_f o21 o31 s33 (by decide)]; rw [e23, if_neg (by omega)]; rw [e7, if_pos ⟨rfl, rfl⟩]) (by rw [sm_f o21 o31 s33 (by decide)]; rw [e23, if_neg (by omega)]; rw [e7, if_neg (by omega)]) (by omega) (fun j => (by rw [sm_a o21 o31 s33 TMa_21 (by decide)]; rw [e23, if_neg (by omega)]; rw [e7, if_neg (by omega)])) (fun j => (by rw [sm_a o21 o31 s33 TMa_23 (by decide)]; rw [e23, if_neg (by omega)]; rw [e7, if_neg (by omega)])) (fun j => (by rw [sm_a o21 o31 s33 TMa_24 (by decide)]; rw [e23, if_neg (by omega)]; rw [e7, if_neg (by omega)])))⟩)⟩
    · have c1 : (0 : Int) < z := c1
      refine hr_aln C 0 dX12_behindUnit_108 rfl rfl rfl ?_
      refine hr_iln C 1 dX12_behindUnit_109 rfl rfl rfl ?_
      refine hr_iln C 1 dX12_behindUnit_110 rfl rfl rfl ?_
      refine hr_ic C dX12_behindUnit_111 rfl ?_
      refine hr_cmp C 120 dX12_behindUnit_112 (by decide) ⟨by omega, by omega⟩ ⟨by omega, by omega⟩ rfl (fun c39 => ?_) (fun c39 => ?_)
      · have c39 : ¬ (z : Int) = 2 := c39
        refine hr_iln C 1 dX12_behindUnit_120 rfl rfl rfl ?_
        refine hr_ic C dX12_behindUnit_121 rfl ?_
        refine hr_cmp C 130 dX12_behindUnit_122 (by decide) ⟨by omega, by omega⟩ ⟨by omega, by omega⟩ rfl (fun c40 => ?_) (fun c40 => ?_)
        · have c40 : ¬ (z : Int) = 1 := c40
          refine hr_aln C 0 dX12_behindUnit_130 rfl rfl rfl ?_
          refine hr_aln C 0 dX12_behindUnit_131 rfl rfl rfl ?_
          refine hr_gI (lo := 0) (hi := 1600) C hr0 TM0 rfl fl_X12_206 dX12_behindUnit_132 rfl (fun b41 b42 => ?_)
          refine hr_cV (As := [zv (vi w 0 6)]) (rest := [zv (z), .ref r]) C (h_sign h r (vi w 0 6) hr0 ⟨by omega, by omega⟩) ⟨by decide, by decide⟩ iV_X12_sign g_X12_209 TM0 hr0 dX12_behindUnit_135 rfl rfl (Nat.le_of_ble_eq_true rfl) rfl ⟨rfl, trivial⟩ (fun w43 rv o44 q45 => ?_)
          obtain ⟨rfl, rfl⟩ := q45
          refine hr_norm (st' := [zv (sgv w (vi w 0 6)), zv (z), .ref r]) rfl ?_
          have hsg := sgv_b w (vi w 0 6)
          refine hr_cV (As := [zv (z), zv (sgv w (vi w 0 6))]) (rest := []) C (h_pushE h r (z) (sgv w (vi w 0 6)) hr0 ⟨by omega, by omega⟩ ⟨by omega, by omega⟩) ⟨by decide, by decide⟩ iV_X12_pushE g_X12_323 TM0 hr0 dX12_behindUnit_138 rfl rfl (Nat.le_of_ble_eq_true rfl) rfl ⟨rfl, by omega⟩ (fun w46 rv o47 q48 => ?_)
          obtain ⟨s49, rfl, e50, e51, e52⟩ := q48
          refine hr_norm (st' := []) rfl ?_
          refine hr_aln C 0 dX12_behindUnit_141 rfl rfl rfl ?_
          have h7 : vi w46 0 7 = vi w 0 7 := (by rw [sm_f how o47 s49 (by decide)])
          have h7b := fl_b (fi := 7) (lo := 0) (hi := 1601) how hr0 rfl
          refine hr_cV (As := []) (rest := []) C (hM_fx (km292 h)) ⟨by decide, by decide⟩ iV_X12_goOn g_X12_245 TM0 hr0 dX12_behindUnit_142 rfl rfl (Nat.le_of_ble_eq_true rfl) rfl ⟨(ty_cons (ok_r hr0 (by decide) (by decide)) ty_nil), (fs_f o47 hr0 rfl ⟨_, _, rfl⟩ (by omega) (by omega))⟩ (fun w53 rv o54 q55 => ?_)
          obtain ⟨s56, po, hpo57, hrv58, hty59, rt, hfs60⟩ := q55
          replace s56 : fx_sm (gsM, TM, cy, fun _ => True) [(12, 6), (12, 7), (12, 8), (12, 9), (12, 10)] w46 w53 := s56
          simp only [km292_c, List.mem_cons, List.not_mem_nil, or_false] at hpo57
          subst hpo57
          obtain rfl := hrv58
          obtain ⟨⟨_, u61⟩, av62, g63, u64⟩ := fs_u (v0 := .ref r) rfl hfs60
          have hf65 := fs_t hnd o54 hr0 rfl u61
          have hf66 := fs_t hnd o54 hr0 g63 u64
          refine hr_norm (st' := []) rfl ?_
          refine hr_ic C dX12_behindUnit_145 rfl ?_
          have hop1 := hop (by omega)
          unfold opS at hop1
          have i37 : vi w53 0 37 = vi w 0 37 := (by rw [sm_f o47 o54 s56 (by decide)]; rw [sm_f how o47 s49 (by decide)])
          have i39 : vi w53 0 39 = vi w 0 39 := (by rw [sm_f o47 o54 s56 (by decide)]; rw [sm_f how o47 s49 (by decide)])
          exact hr_zret C hlocks hr (by omega) dX12_behindUnit_146 ⟨(fx_sm_tr (fx_sm_tr sm s49 (by decide)) s56 (by decide)), (by omega), FRc_tr hfr (FRc_eq (fun j => (by rw [sm_a o47 o54 s56 TMa_21 (by decide)]; rw [sm_a how o47 s49 TMa_21 (by decide)]))), (show vi w53 0 39 = vi w 0 39 from (by rw [sm_f o47 o54 s56 (by decide)]; rw [sm_f how o47 s49 (by decide)])).trans h39, _, rfl, Or.inr (Or.inl ⟨rfl, EI_pushes (x := z) (y := sgv w (vi w 0 6)) (d := 0) (u := 0) ei (by rw [sm_f o47 o54 s56 (by decide)]; rw [sm_f how o47 s49 (by decide)]) (i37.trans (Int.add_zero _).symm) (by rw [sm_f o47 o54 s56 (by decide)]; rw [e50]) (i39.trans (Int.add_zero _).symm) ⟨by omega, by omega⟩ (by omega) (Or.inr (Or.inr ⟨by omega, rfl, rfl, by omega, by omega⟩)) (fun j => (by rw [sm_a o47 o54 s56 TMa_21 (by decide)]; rw [sm_a how o47 s49 TMa_21 (by decide)])) (fun j => by rw [sm_a o47 o54 s56 TMa_23 (by decide)]; rw [e51]) (fun j => by rw [sm_a o47 o54 s56 TMa_24 (by decide)]; rw [e52])⟩)⟩
        · have c40 : (z : Int) = 1 := c40
          refine hr_bi C dX12_behindUnit_125 (by decide +kernel) rfl ?_
          refine hr_goto C 138 dX12_behindUnit_127 (by decide) ?_
          refine hr_cV (As := [zv (z), zv (124)]) (rest := []) C (h_pushE h r (z) (124) hr0 ⟨by omega, by omega⟩ ⟨by omega, by omega⟩) ⟨by decide, by decide⟩ iV_X12_pushE g_X12_323 TM0 hr0 dX12_behindUnit_138 rfl rfl (Nat.le_of_ble_eq_true rfl) rfl ⟨rfl, by omega⟩ (fun w67 rv o68 q69 => ?_)
          obtain ⟨s70, rfl, e71, e72, e73⟩ := q69
          refine hr_norm (st' := []) rfl ?_
          refine hr_aln C 0 dX12_behindUnit_141 rfl rfl rfl ?_
          have h7 : vi w67 0 7 = vi w 0 7 := (by rw [sm_f how o68 s70 (by decide)])
          have h7b := fl_b (fi := 7) (lo := 0) (hi := 1601) how hr0 rfl
          refine hr_cV (As := []) (rest := []) C (hM_fx (km292 h)) ⟨by decide, by decide⟩ iV_X12_goOn g_X12_245 TM0 hr0 dX12_behindUnit_142 rfl rfl (Nat.le_of_ble_eq_true rfl) rfl ⟨(ty_cons (ok_r hr0 (by decide) (by decide)) ty_nil), (fs_f o68 hr0 rfl ⟨_, _, rfl⟩ (by omega) (by omega))⟩ (fun w74 rv o75 q76 => ?_)
          obtain ⟨s77, po, hpo78, hrv79, hty80, rt, hfs81⟩ := q76
          replace s77 : fx_sm (gsM, TM, cy, fun _ => True) [(12, 6), (12, 7), (12, 8), (12, 9), (12, 10)] w67 w74 := s77
          simp only [km292_c, List.mem_cons, List.not_mem_nil, or_false] at hpo78
          subst hpo78
          obtain rfl := hrv79
          obtain ⟨⟨_, u82⟩, av83, g84, u85⟩ := fs_u (v0 := .ref r) rfl hfs81
          have hf86 := fs_t hnd o75 hr0 rfl u82
          have hf87 := fs_t hnd o75 hr0 g84 u85
          refine hr_norm (st' := []) rfl ?_
          refine hr_ic C dX12_behindUnit_145 rfl ?_
          have i37 : vi w74 0 37 = vi w 0 37 := (by rw [sm_f o68 o75 s77 (by decide)]; rw [sm_f how o68 s70 (by decide)])
          have i39 : vi w74 0 39 = vi w 0 39 := (by rw [sm_f o68 o75 s77 (by decide)]; rw [sm_f how o68 s70 (by decide)])
          exact hr_zret C hlocks hr (by omega) dX12_behindUnit_146 ⟨(fx_sm_tr (fx_sm_tr sm s70 (by decide)) s77 (by decide)), (by omega), FRc_tr hfr (FRc_eq (fun j => (by rw [sm_a o68 o75 s77 TMa_21 (by decide)]; rw [sm_a how o68 s70 TMa_21 (by decide)]))), (show vi w74 0 39 = vi w 0 39 from (by rw [sm_f o68 o75 s77 (by decide)]; rw [sm_f how o68 s70 (by decide)])).trans h39, _, rfl, Or.inr (Or.inl ⟨rfl, EI_pushes (x := z) (y := 124) (d := 0) (u := 0) ei (by rw [sm_f o68 o75 s77 (by decide)]; rw [sm_f how o68 s70 (by decide)]) (i37.trans (Int.add_zero _).symm) (by rw [sm_f o68 o75 s77 (by decide)]; rw [e71]) (i39.trans (Int.add_zero _).symm) ⟨by omega, by omega⟩ (by omega) (Or.inr (Or.inr ⟨by omega, rfl, rfl, by omega, by omega⟩)) (fun j => (by rw [sm_a o68 o75 s77 TMa_21 (by decide)]; rw [sm_a how o68 s70 TMa_21 (by decide)])) (fun j => by rw [sm_a o68 o75 s77 TMa_23 (by decide)]; rw [e72]) (fun j => by rw [sm_a o68 o75 s77 TMa_24 (by decide)]; rw [e73])⟩)⟩
      · have c39 : (z : Int) = 2 := c39
        refine hr_bi C dX12_behindUnit_115 (by decide +kernel) rfl ?_
        refine hr_goto C 138 dX12_behindUnit_117 (by decide) ?_
        refine hr_cV (As := [zv (z), zv (38)]) (rest := []) C (h_pushE h r (z) (38) hr0 ⟨by omega, by omega⟩ ⟨by omega, by omega⟩) ⟨by decide, by decide⟩ iV_X12_pushE g_X12_323 TM0 hr0 dX12_behindUnit_138 rfl rfl (Nat.le_of_ble_eq_true rfl) rfl ⟨rfl, by omega⟩ (fun w88 rv o89 q90 => ?_)
        obtain ⟨s91, rfl, e92, e93, e94⟩ := q90
        refine hr_norm (st' := []) rfl ?_
        refine hr_aln C 0 dX12_behindUnit_141 rfl rfl rfl ?_
        have h7 : vi w88 0 7 = vi w 0 7 := (by rw [sm_f how o89 s91 (by decide)])
        have h7b := fl_b (fi := 7) (lo := 0) (hi := 1601) how hr0 rfl
        refine hr_cV (As := []) (rest := []) C (hM_fx (km292 h)) ⟨by decide, by decide⟩ iV_X12_goOn g_X12_245 TM0 hr0 dX12_behindUnit_142 rfl rfl (Nat.le_of_ble_eq_true rfl) rfl ⟨(ty_cons (ok_r hr0 (by decide) (by decide)) ty_nil), (fs_f o89 hr0 rfl ⟨_, _, rfl⟩ (by omega) (by omega))⟩ (fun w95 rv o96 q97 => ?_)
        obtain ⟨s98, po, hpo99, hrv100, hty101, rt, hfs102⟩ := q97
        replace s98 : fx_sm (gsM, TM, cy, fun _ => True) [(12, 6), (12, 7), (12, 8), (12, 9), (12, 10)] w88 w95 := s98
        simp only [km292_c, List.mem_cons, List.not_mem_nil, or_false] at hpo99
        subst hpo99
        obtain rfl := hrv100
        obtain ⟨⟨_, u103⟩, av104, g105, u106⟩ := fs_u (v0 := .ref r) rfl hfs102
        have hf107 := fs_t hnd o96 hr0 rfl u103
        have hf108 := fs_t hnd o96 hr0 g105 u106
        refine hr_norm (st' := []) rfl ?_
        refine hr_ic C dX12_behindUnit_145 rfl ?_
        have i37 : vi w95 0 37 = vi w 0 37 := (by rw [sm_f o89 o96 s98 (by decide)]; rw [sm_f how o89 s91 (by decide)])
        have i39 : vi w95 0 39 = vi w 0 39 := (by rw [sm_f o89 o96 s98 (by decide)]; rw [sm_f how o89 s91 (by decide)])
        exact hr_zret C hlocks hr (by omega) dX12_behindUnit_146 ⟨(fx_sm_tr (fx_sm_tr sm s91 (by decide)) s98 (by decide)), (by omega), FRc_tr hfr (FRc_eq (fun j => (by rw [sm_a o89 o96 s98 TMa_21 (by decide)]; rw [sm_a how o89 s91 TMa_21 (by decide)]))), (show vi w95 0 39 = vi w 0 39 from (by rw [sm_f o89 o96 s98 (by decide)]; rw [sm_f how o89 s91 (by decide)])).trans h39, _, rfl, Or.inr (Or.inl ⟨rfl, EI_pushes (x := z) (y := 38) (d := 0) (u := 0) ei (by rw [sm_f o89 o96 s98 (by decide)]; rw [sm_f how o89 s91 (by decide)]) (i37.trans (Int.add_zero _).symm) (by rw [sm_f o89 o96 s98 (by decide)]; rw [e92]) (i39.trans (Int.add_zero _).symm) ⟨by omega, by omega⟩ (by omega) (Or.inr (Or.inr ⟨by omega, rfl, rfl, by omega, by omega⟩)) (fun j => (by rw [sm_a o89 o96 s98 TMa_21 (by decide)]; rw [sm_a how o89 s91 TMa_21 (by decide)])) (fun j => by rw [sm_a o89 o96 s98 TMa_23 (by decide)]; rw [e93]) (fun j => by rw [sm_a o89 o96 s98 TMa_24 (by decide)]; rw [e94])⟩)⟩
  have loop : ∀ (q : Nat) (z : Int) (w : va_W), (vi w 0 38).toNat < q → fx_wo (gsM, TM, cy, fun _ => True) ad w → fx_sm (gsM, TM, cy, fun _ => True) [(12, 4), (12, 5), (12, 6), (12, 7), (12, 8), (12, 9), (12, 10), (12, 36), (12, 37), (12, 38), (12, 39), (1000, 6), (1000, 21), (1000, 22), (1000, 23), (1000, 24)] ws w → EI w f 1 → vi w 0 7 ≤ 1600 → FRc ws w f → vi w 0 39 = vi ws 0 39 → vi w 0 38 ≤ vi ws 0 38 → 0 ≤ z → z ≤ 6 → ¬ z = 3 → (4 ≤ z → opS (sgv w (vi w 0 6))) → HW l E ad D cy (va_A ws s.heap.size) s.heap p e ({ frames := 3, cells := 0, slots := 0, locals := 65 }) s m ([.ref r]).toArray below meth c (MQ below (hQ ad D cy (fun _ ws rv ws1 => fx_sm (gsM, TM, cy, fun _ => True) [(12, 4), (12, 5), (12, 6), (12, 7), (12, 8), (12, 9), (12, 10), (12, 36), (12, 37), (12, 38), (12, 39), (1000, 6), (1000, 21), (1000, 22), (1000, 23), (1000, 24)] ws ws1 ∧ vi ws1 0 7 ≤ 1600 ∧ FRc ws ws1 f ∧ vi ws1 0 39 = vi ws 0 39 ∧ ∃ z, rv = some (zv z) ∧ ((z = 1 ∧ 1 ≤ vi ws1 0 4 ∧ EI ws1 f 1) ∨ (z = 1 ∧ EI ws1 f 0) ∨ (z = 0 ∧ vi ws1 0 38 < vi ws 0 38 ∧ (EI ws1 f 1 ∨ (vi ws1 0 38 = 0 ∧ wfc (vi ws1 21) f (vi ws1 0 36).toNat ∧ (f : Int) ≤ vi ws1 0 36 ∧ vi ws1 0 36 ≤ f + 560))))) ([.ref r]) ws s.heap.size) ([.ref r]).toArray s 0 0 (va_A ws s.heap.size)) cX12_behindUnit 2 yX12_behindUnit.cls 23 [(0, .ref r), (1, zv z)] [] w := by
    intro q
    induction q with
    | zero => intro z w hq; omega
    | succ q ih =>
      intro z w hq how sm ei he hfr h39 h38 hz0 hz6 hz3 hop
      have ei0 := ei
      unfold EI at ei0
      obtain ⟨⟨p1, p2, p3⟩, q1, q2, ⟨w1, w2⟩, ⟨u1, u2⟩, f1, ⟨d1, d2⟩, k1, wf⟩ := ei0
      have cb1 := cn_b (q := q37) (e := vi w 23) (vi w 0 38).toNat
      have cb2 := cn_b (q := q3) (e := vi w 23) (vi w 0 38).toNat
      have q1k := q1 (Int.toNat (vi w 0 38 - 1))
      have e0 : vi w 0 38 = 1 → vi w 23 (Int.toNat (vi w 0 38 - 1)) = 8 := fun h => by rw [h]; exact p3
      have e1 : 1 ≤ Int.toNat (vi w 0 38 - 1) → 1 ≤ vi w 23 (Int.toNat (vi w 0 38 - 1)) ∧ vi w 23 (Int.toNat (vi w 0 38 - 1)) ≤ 7 := fun h => q1k h (by omega)
      clear q1k
      refine hr_aln C 0 dX12_behindUnit_23 rfl rfl rfl ?_
      refine hr_gA (g := 23) C hr0 TM0 rfl (by decide) fl_X12_83 dX12_behindUnit_24 rfl (fun a1 ha2 => ?_)
      refine hr_aln C 0 dX12_behindUnit_27 rfl rfl rfl ?_
      refine hr_gI (lo := 0) (hi := 90) C hr0 TM0 rfl fl_X12_317 dX12_behindUnit_28 rfl (fun b3 b4 => ?_)
      refine hr_ic C dX12_behindUnit_31 rfl ?_
      refine hr_sub C dX12_behindUnit_32 rfl ?_
      refine hr_ald C ha2 TMa_23 (by omega) (by omega) (by decide) dX12_behindUnit_33 rfl (fun b5 b6 => ?_)
      have b5 := gp1 b5
      simp only [rg] at b6
      refine hr_bi C dX12_behindUnit_34 (by decide +kernel) rfl ?_
      refine hr_cmp C 104 dX12_behindUnit_36 (by decide) ⟨by omega, by omega⟩ ⟨by omega, by omega⟩ rfl (fun c7 => ?_) (fun c7 => ?_)
      · have c7 : (6 : Int) < vi w 23 (Int.toNat ((vi w 0 38) - 1)) := c7
        refine hr_pick (lv' := [(0, .ref r), (1, zv (z))]) [0, 1] rfl ?_
        exact k104 z w how sm ei he hfr h39 h38 hz0 hz6 hz3 hop (by omega)
      · have c7 : (vi w 23 (Int.toNat ((vi w 0 38) - 1)) : Int) ≤ 6 := c7
        refine hr_aln C 0 dX12_behindUnit_39 rfl rfl rfl ?_
        refine hr_gA (g := 23) C hr0 TM0 rfl (by decide) fl_X12_83 dX12_behindUnit_40 rfl (fun a8 ha9 => ?_)
        refine hr_aln C 0 dX12_behindUnit_43 rfl rfl rfl ?_
        refine hr_gI (lo := 0) (hi := 90) C hr0 TM0 rfl fl_X12_317 dX12_behindUnit_44 rfl (fun b10 b11 => ?_)
        refine hr_ic C dX12_behindUnit_47 rfl ?_
        refine hr_sub C dX12_behindUnit_48 rfl ?_
        refine hr_ald C ha9 TMa_23 (by omega) (by omega) (by decide) dX12_behindUnit_49 rfl (fun b12 b13 => ?_)
        have b12 := gp1 b12
        simp only [rg] at b13
        refine hr_iln C 1 dX12_behindUnit_50 rfl rfl rfl ?_
        refine hr_cmp C 104 dX12_behindUnit_51 (by decide) ⟨by omega, by omega⟩ ⟨by omega, by omega⟩ rfl (fun c14 => ?_) (fun c14 => ?_)
        · have c14 : (vi w 23 (Int.toNat ((vi w 0 38) - 1)) : Int) < z := c14
          refine hr_pick (lv' := [(0, .ref r), (1, zv (z))]) [0, 1] rfl ?_
          exact k104 z w how sm ei he hfr h39 h38 hz0 hz6 hz3 hop (by omega)
        · have c14 : (z : Int) ≤ vi w 23 (Int.toNat ((vi w 0 38) - 1)) := c14
          refine hr_aln C 0 dX12_behindUnit_54 rfl rfl rfl ?_
          refine hr_dup C dX12_behindUnit_55 rfl rfl ?_
          refine hr_gI (lo := 0) (hi := 90) C hr0 TM0 rfl fl_X12_317 dX12_behindUnit_56 rfl (fun b15 b16 => ?_)
          refine hr_ic C dX12_behindUnit_59 rfl ?_
          refine hr_sub C dX12_behindUnit_60 rfl ?_
          refine hr_pI (lo := 0) (hi := 90) C hr0 TM0 rfl ⟨by decide, by decide⟩ pl_X12_317 dX12_behindUnit_61 (by omega) (by omega) rfl (fun w17 o18 s19 e20 => ?_)
          refine hr_aln C 0 dX12_behindUnit_64 rfl rfl rfl ?_
          refine hr_gA (g := 23) C hr0 TM0 rfl (by decide) fl_X12_83 dX12_behindUnit_65 rfl (fun a21 ha22 => ?_)
          refine hr_aln C 0 dX12_behindUnit_68 rfl rfl rfl ?_
          refine hr_gI (lo := 0) (hi := 90) C hr0 TM0 rfl fl_X12_317 dX12_behindUnit_69 rfl (fun b23 b24 => ?_)
          have q25 : vi w17 0 38 = (vi w 0 38) - 1 := by rw [e20, if_pos ⟨rfl, rfl⟩]
          rw [q25] at b23 b24 ⊢
          refine hr_ald C ha22 TMa_23 (by omega) (by omega) (by decide) dX12_behindUnit_72 rfl (fun b26 b27 => ?_)
          have b26 := gp1 b26
          have q28 : vi w17 23 (Int.toNat ((vi w 0 38) - 1)) = vi w 23 (Int.toNat ((vi w 0 38) - 1)) := by rw [e20, if_neg (by omega)]
          rw [q28] at b26 b27 ⊢
          simp only [rg] at b27
          refine hr_ic C dX12_behindUnit_73 rfl ?_
          refine hr_cmp C 87 dX12_behindUnit_74 (by decide) ⟨by omega, by omega⟩ ⟨by omega, by omega⟩ rfl (fun c29 => ?_) (fun c29 => ?_)
          · have c29 : ¬ (vi w 23 (Int.toNat ((vi w 0 38) - 1)) : Int) = 3 := c29
            refine hr_aln C 0 dX12_behindUnit_87 rfl rfl rfl ?_
            refine hr_aln C 0 dX12_behindUnit_88 rfl rfl rfl ?_
            refine hr_gA (g := 24) C hr0 TM0 rfl (by decide) fl_X12_86 dX12_behindUnit_89 rfl (fun a30 ha31 => ?_)
            refine hr_aln C 0 dX12_behindUnit_92 rfl rfl rfl ?_
            refine hr_gI (lo := 0) (hi := 90) C hr0 TM0 rfl fl_X12_317 dX12_behindUnit_93 rfl (fun b32 b33 => ?_)
            have q34 : vi w17 0 38 = (vi w 0 38) - 1 := by rw [e20, if_pos ⟨rfl, rfl⟩]
            rw [q34] at b32 b33 ⊢
            refine hr_ald C ha31 TMa_24 (by omega) (by omega) (by decide) dX12_behindUnit_96 rfl (fun b35 b36 => ?_)
            have b35 := gp1 b35
            have q37 : vi w17 24 (Int.toNat ((vi w 0 38) - 1)) = vi w 24 (Int.toNat ((vi w 0 38) - 1)) := by rw [e20, if_neg (by omega)]
            rw [q37] at b35 b36 ⊢
            simp only [rg] at b36
            refine hr_ic C dX12_behindUnit_97 rfl ?_
            refine hr_cV (As := [zv (vi w 24 (Int.toNat ((vi w 0 38) - 1))), zv (0)]) (rest := []) C (h_emit h r (vi w 24 (Int.toNat ((vi w 0 38) - 1))) (0) hr0 ⟨by omega, by omega⟩ ⟨by omega, by omega⟩) ⟨by decide, by decide⟩ iV_X12_emit g_X12_335 TM0 hr0 dX12_behindUnit_98 rfl rfl (Nat.le_of_ble_eq_true rfl) rfl ⟨rfl, by rw [e20, if_neg (by omega)]; omega⟩ (fun w38 rv o39 q40 => ?_)
            obtain ⟨s41, rfl, e42, e43⟩ := q40
            refine hr_norm (st' := []) rfl ?_
            refine hr_goto C 23 dX12_behindUnit_101 (by decide) ?_
            refine hr_pick (lv' := [(0, .ref r), (1, zv (z))]) [0, 1] rfl ?_
            have i37 : vi w38 0 37 = vi w 0 37 := (by rw [sm_f o18 o39 s41 (by decide)]; rw [e20, if_neg (by omega)])
            have h38n : vi w38 0 38 = vi w 0 38 - 1 := (by rw [sm_f o18 o39 s41 (by decide)]; rw [e20, if_pos ⟨rfl, rfl⟩])
            have frn : FRc w w38 f := fun j hj => by
              have q : vi w38 21 j = if j = (vi w 0 36).toNat then vi w 24 (Int.toNat ((vi w 0 38) - 1)) else vi w 21 j := by rw [e43]; rw [show vi w17 0 36 = vi w 0 36 from (by rw [e20, if_neg (by omega)])]; rw [show vi w17 21 j = vi w 21 j from by rw [e20, if_neg (by omega)]]
              rw [q, if_neg (by omega)]
            exact ih z _ (by omega) o39 (fx_sm_tr (fx_sm_tr sm s19 (by decide)) s41 (by decide)) (EI_pop (k := (Int.toNat (vi w 0 38 - 1))) (d := 0) ei (by omega) (by rw [e42]; rw [e20, if_neg (by omega)]) (i37.trans (Int.sub_zero _).symm) (by rw [sm_f o18 o39 s41 (by decide)]; rw [e20, if_pos ⟨rfl, rfl⟩]) (by rw [sm_f o18 o39 s41 (by decide)]; rw [e20, if_neg (by omega)]) (by omega) (Or.inr ⟨by omega, rfl⟩) (fun j => by rw [e43]; rw [show vi w17 0 36 = vi w 0 36 from (by rw [e20, if_neg (by omega)])]; rw [show vi w17 21 j = vi w 21 j from by rw [e20, if_neg (by omega)]]) (fun j => (by rw [sm_a o18 o39 s41 TMa_23 (by decide)]; rw [e20, if_neg (by omega)])) (fun j => (by rw [sm_a o18 o39 s41 TMa_24 (by decide)]; rw [e20, if_neg (by omega)]))) (by rw [sm_f o18 o39 s41 (by decide)]; rw [e20, if_neg (by omega)]; omega) (FRc_tr hfr frn) ((show vi w38 0 39 = vi w 0 39 from (by rw [sm_f o18 o39 s41 (by decide)]; rw [e20, if_neg (by omega)])).trans h39) (by omega) hz0 hz6 hz3 (fun h => by rw [sgv_c (w := w) (by rw [sm_f o18 o39 s41 (by decide)]; rw [e20, if_neg (by omega)]) (by rw [sm_f o18 o39 s41 (by decide)]; rw [e20, if_neg (by omega)]) (fun j => (by rw [sm_a o18 o39 s41 TMa_2 (by decide)]; rw [e20, if_neg (by omega)]))]; exact hop h)
          · have c29 : (vi w 23 (Int.toNat ((vi w 0 38) - 1)) : Int) = 3 := c29
            refine hr_aln C 0 dX12_behindUnit_77 rfl rfl rfl ?_
            refine hr_dup C dX12_behindUnit_78 rfl rfl ?_
            refine hr_gI (lo := -2147483648) (hi := 2147483647) C hr0 TM0 rfl fl_X12_320 dX12_behindUnit_79 rfl (fun b44 b45 => ?_)
            have q46 : vi w17 0 37 = vi w 0 37 := by rw [e20, if_neg (by omega)]
            rw [q46] at b44 b45 ⊢
            refine hr_ic C dX12_behindUnit_82 rfl ?_
            refine hr_sub C dX12_behindUnit_83 rfl ?_
            refine hr_pI (lo := -2147483648) (hi := 2147483647) C hr0 TM0 rfl ⟨by decide, by decide⟩ pl_X12_320 dX12_behindUnit_84 (by omega) (by omega) rfl (fun w47 o48 s49 e50 => ?_)
            refine hr_aln C 0 dX12_behindUnit_87 rfl rfl rfl ?_
            refine hr_aln C 0 dX12_behindUnit_88 rfl rfl rfl ?_
            refine hr_gA (g := 24) C hr0 TM0 rfl (by decide) fl_X12_86 dX12_behindUnit_89 rfl (fun a51 ha52 => ?_)
            refine hr_aln C 0 dX12_behindUnit_92 rfl rfl rfl ?_
            refine hr_gI (lo := 0) (hi := 90) C hr0 TM0 rfl fl_X12_317 dX12_behindUnit_93 rfl (fun b53 b54 => ?_)
            have q55 : vi w47 0 38 = (vi w 0 38) - 1 := by rw [e50, if_neg (by omega)]; rw [e20, if_pos ⟨rfl, rfl⟩]
            rw [q55] at b53 b54 ⊢
            refine hr_ald C ha52 TMa_24 (by omega) (by omega) (by decide) dX12_behindUnit_96 rfl (fun b56 b57 => ?_)
            have b56 := gp1 b56
            have q58 : vi w47 24 (Int.toNat ((vi w 0 38) - 1)) = vi w 24 (Int.toNat ((vi w 0 38) - 1)) := by rw [e50, if_neg (by omega)]; rw [e20, if_neg (by omega)]
            rw [q58] at b56 b57 ⊢
            simp only [rg] at b57
            refine hr_ic C dX12_behindUnit_97 rfl ?_
            refine hr_cV (As := [zv (vi w 24 (Int.toNat ((vi w 0 38) - 1))), zv (0)]) (rest := []) C (h_emit h r (vi w 24 (Int.toNat ((vi w 0 38) - 1))) (0) hr0 ⟨by omega, by omega⟩ ⟨by omega, by omega⟩) ⟨by decide, by decide⟩ iV_X12_emit g_X12_335 TM0 hr0 dX12_behindUnit_98 rfl rfl (Nat.le_of_ble_eq_true rfl) rfl ⟨rfl, by rw [e50, if_neg (by omega)]; rw [e20, if_neg (by omega)]; omega⟩ (fun w59 rv o60 q61 => ?_)
            obtain ⟨s62, rfl, e63, e64⟩ := q61
            refine hr_norm (st' := []) rfl ?_
            refine hr_goto C 23 dX12_behindUnit_101 (by decide) ?_
            refine hr_pick (lv' := [(0, .ref r), (1, zv (z))]) [0, 1] rfl ?_
            have h38n : vi w59 0 38 = vi w 0 38 - 1 := (by rw [sm_f o48 o60 s62 (by decide)]; rw [e50, if_neg (by omega)]; rw [e20, if_pos ⟨rfl, rfl⟩])
            have frn : FRc w w59 f := fun j hj => by
              have q : vi w59 21 j = if j = (vi w 0 36).toNat then vi w 24 (Int.toNat ((vi w 0 38) - 1)) else vi w 21 j := by rw [e64]; rw [show vi w47 0 36 = vi w 0 36 from (by rw [e50, if_neg (by omega)]; rw [e20, if_neg (by omega)])]; rw [show vi w47 21 j = vi w 21 j from by rw [e50, if_neg (by omega)]; rw [e20, if_neg (by omega)]]
              rw [q, if_neg (by omega)]
            exact ih z _ (by omega) o60 (fx_sm_tr (fx_sm_tr (fx_sm_tr sm s19 (by decide)) s49 (by decide)) s62 (by decide)) (EI_pop (k := (Int.toNat (vi w 0 38 - 1))) (d := 1) ei (by omega) (by rw [e63]; rw [e50, if_neg (by omega)]; rw [e20, if_neg (by omega)]) ((by rw [sm_f o48 o60 s62 (by decide)]; rw [e50, if_pos ⟨rfl, rfl⟩])) (by rw [sm_f o48 o60 s62 (by decide)]; rw [e50, if_neg (by omega)]; rw [e20, if_pos ⟨rfl, rfl⟩]) (by rw [sm_f o48 o60 s62 (by decide)]; rw [e50, if_neg (by omega)]; rw [e20, if_neg (by omega)]) (by omega) (Or.inl ⟨by omega, rfl⟩) (fun j => by rw [e64]; rw [show vi w47 0 36 = vi w 0 36 from (by rw [e50, if_neg (by omega)]; rw [e20, if_neg (by omega)])]; rw [show vi w47 21 j = vi w 21 j from by rw [e50, if_neg (by omega)]; rw [e20, if_neg (by omega)]]) (fun j => (by rw [sm_a o48 o60 s62 TMa_23 (by decide)]; rw [e50, if_neg (by omega)]; rw [e20, if_neg (by omega)])) (fun j => (by rw [sm_a o48 o60 s62 TMa_24 (by decide)]; rw [e50, if_neg (by omega)]; rw [e20, if_neg (by omega)]))) (by rw [sm_f o48 o60 s62 (by decide)]; rw [e50, if_neg (by omega)]; rw [e20, if_neg (by omega)]; omega) (FRc_tr hfr frn) ((show vi w59 0 39 = vi w 0 39 from (by rw [sm_f o48 o60 s62 (by decide)]; rw [e50, if_neg (by omega)]; rw [e20, if_neg (by omega)])).trans h39) (by omega) hz0 hz6 hz3 (fun h => by rw [sgv_c (w := w) (by rw [sm_f o48 o60 s62 (by decide)]; rw [e50, if_neg (by omega)]; rw [e20, if_neg (by omega)]) (by rw [sm_f o48 o60 s62 (by decide)]; rw [e50, if_neg (by omega)]; rw [e20, if_neg (by omega)]) (fun j => (by rw [sm_a o48 o60 s62 TMa_2 (by decide)]; rw [e50, if_neg (by omega)]; rw [e20, if_neg (by omega)]))]; exact hop h)
  have ei0 := ei
  unfold EI at ei0
  obtain ⟨⟨p1, p2, p3⟩, q1, q2, ⟨w1, w2⟩, ⟨u1, u2⟩, f1, ⟨d1, d2⟩, k1, wf⟩ := ei0
  have cb1 := cn_b (q := q37) (e := vi ws 23) (vi ws 0 38).toNat
  have cb2 := cn_b (q := q3) (e := vi ws 23) (vi ws 0 38).toNat
  refine hr_aln C 0 dX12_behindUnit_0 rfl rfl rfl ?_
  refine hr_cV (As := []) (rest := []) C (h_rankHere h r hr0) ⟨by decide, by decide⟩ iV_X12_rankHere g_X12_338 TM0 hr0 dX12_behindUnit_1 rfl rfl (Nat.le_of_ble_eq_true rfl) rfl ⟨rfl, trivial⟩ (fun w1 rv o2 q3 => ?_)
  obtain ⟨s4, z, rfl, hz0, hz6, hz3, hop⟩ := q3
  refine hr_norm (st' := [zv (z)]) rfl ?_
  refine hr_isn (lv' := [(1, zv (z)), (0, .ref r)]) C dX12_behindUnit_4 rfl (by decide) rfl rfl ?_
  refine hr_iln C 0 dX12_behindUnit_5 rfl rfl rfl ?_
  refine hr_ic C dX12_behindUnit_6 rfl ?_
  refine hr_cmp C 23 dX12_behindUnit_7 (by decide) ⟨by omega, by omega⟩ ⟨by omega, by omega⟩ rfl (fun c5 => ?_) (fun c5 => ?_)
  · have c5 : ¬ (z : Int) = 4 := c5
    refine hr_pick (lv' := [(0, .ref r), (1, zv (z))]) [1, 0] rfl ?_
    exact loop _ z _ (Nat.lt_succ_self _) o2 (fx_sm_tr fx_sm_refl s4 (by decide)) (EI_fr hwo o2 s4 (by decide) ei) (by rw [sm_f hwo o2 s4 (by decide)]; omega) (FRc_eq (fun j => (by rw [sm_a hwo o2 s4 TMa_21 (by decide)]))) (by rw [sm_f hwo o2 s4 (by decide)]) (Int.le_of_eq (by rw [sm_f hwo o2 s4 (by decide)])) hz0 hz6 hz3 (fun h => by rw [sgv_c (w := ws) (by rw [sm_f hwo o2 s4 (by decide)]) (by rw [sm_f hwo o2 s4 (by decide)]) (fun j => (by rw [sm_a hwo o2 s4 TMa_2 (by decide)]))]; exact hop h)
  · have c5 : (z : Int) = 4 := c5
    refine hr_aln C 1 dX12_behindUnit_10 rfl rfl rfl ?_
    refine hr_cV (As := []) (rest := []) C (h_isCompared h r hr0) ⟨by decide, by decide⟩ iV_X12_isCompared g_X12_341 TM0 hr0 dX12_behindUnit_11 rfl rfl (Nat.le_of_ble_eq_true rfl) rfl ⟨rfl, by rw [sm_f hwo o2 s4 (by decide)]; omega, by rw [sm_f hwo o2 s4 (by decide)]; omega, by rw [sm_a hwo o2 s4 TMa_23 (by decide)]; exact p3⟩ (fun w6 rv o7 q8 => ?_)
    obtain ⟨rfl, t9, rfl, ht9⟩ := q8
    refine hr_norm (st' := [zv (t9)]) rfl ?_
    refine hr_if C 23 dX12_behindUnit_14 (by decide) ⟨by omega, by omega⟩ rfl (fun c10 => ?_) (fun c10 => ?_)
    · have c10 : (t9 : Int) = 0 := c10
      refine hr_pick (lv' := [(0, .ref r), (1, zv (z))]) [1, 0] rfl ?_
      exact loop _ z _ (Nat.lt_succ_self _) o2 (fx_sm_tr fx_sm_refl s4 (by decide)) (EI_fr hwo o2 s4 (by decide) ei) (by rw [sm_f hwo o2 s4 (by decide)]; omega) (FRc_eq (fun j => (by rw [sm_a hwo o2 s4 TMa_21 (by decide)]))) (by rw [sm_f hwo o2 s4 (by decide)]) (Int.le_of_eq (by rw [sm_f hwo o2 s4 (by decide)])) hz0 hz6 hz3 (fun h => by rw [sgv_c (w := ws) (by rw [sm_f hwo o2 s4 (by decide)]) (by rw [sm_f hwo o2 s4 (by decide)]) (fun j => (by rw [sm_a hwo o2 s4 TMa_2 (by decide)]))]; exact hop h)
    · have c10 : ¬ (t9 : Int) = 0 := c10
      refine hr_aln C 1 dX12_behindUnit_17 rfl rfl rfl ?_
      refine hr_cV (As := []) (rest := []) C (hM_fx (km295 h)) ⟨by decide, by decide⟩ iV_X12_misplaced g_X12_248 TM0 hr0 dX12_behindUnit_18 rfl rfl (Nat.le_of_ble_eq_true rfl) rfl ⟨(ty_cons (ok_r hr0 (by decide) (by decide)) ty_nil), ⟨_, rfl⟩⟩ (fun w11 rv o12 q13 => ?_)
      obtain ⟨s14, po, hpo15, hrv16, hty17, rt, hfs18⟩ := q13
      replace s14 : fx_sm (gsM, TM, cy, fun _ => True) [(12, 4), (12, 5)] w1 w11 := s14
      simp only [km295_c, List.mem_cons, List.not_mem_nil, or_false] at hpo15
      subst hpo15
      obtain rfl := hrv16
      have hf19 := fs_t hnd o12 hr0 rfl hfs18
      refine hr_norm (st' := []) rfl ?_
      refine hr_ic C dX12_behindUnit_21 rfl ?_
      exact hr_zret C hlocks hr (by omega) dX12_behindUnit_22 ⟨(fx_sm_tr (fx_sm_tr fx_sm_refl s4 (by decide)) s14 (by decide)), (by rw [sm_f o2 o12 s14 (by decide)]; rw [sm_f hwo o2 s4 (by decide)]; omega), FRc_eq (fun j => (by rw [sm_a o2 o12 s14 TMa_21 (by decide)]; rw [sm_a hwo o2 s4 TMa_21 (by decide)])), (by rw [sm_f o2 o12 s14 (by decide)]; rw [sm_f hwo o2 s4 (by decide)]), _, rfl, Or.inl ⟨rfl, by omega, (EI_fr o2 o12 s14 (by decide) (EI_fr hwo o2 s4 (by decide) ei))⟩⟩
