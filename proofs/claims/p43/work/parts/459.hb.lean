theorem m_1278 : Cond.methodLink RX12 470 yX12_firstOf ∈ wsL_law := in_wsL_law_r54 _ (List.mem_of_getElem? (i := 6) rfl)
theorem m_1279 : Cond.static yX12_firstOf ∈ wsL_law := in_wsL_law_r54 _ (List.mem_of_getElem? (i := 7) rfl)
theorem m_1280 : Cond.code yX12_firstOf cX12_firstOf 5 (some .int) ∈ wsL_law := in_wsL_law_r54 _ (List.mem_of_getElem? (i := 8) rfl)
theorem iS_X12_firstOf : yX12_firstOf.cls ≠ "java/lang/invoke/MethodHandle" ∧ yX12_firstOf.cls ≠ "java/lang/invoke/VarHandle" ∧ (parseMethodDescriptor yX12_firstOf.desc).map (fun d => d.parameters.length) = some 4 := by decide +kernel
theorem g_X12_470 : GoodIn wsL_law (va_wsS RX12 470 yX12_firstOf (.code yX12_firstOf cX12_firstOf 5 (some .int) :: wsL_law)) := gdS m_1278 m_1279 m_5 m_1280
theorem dX12_common_0 : decode cX12_common 0 = .ok (.aload_n 0, 1) := by decide +kernel
theorem dX12_common_1 : decode cX12_common 1 = .ok (.iconst 0, 1) := by decide +kernel
theorem dX12_common_2 : decode cX12_common 2 = .ok (.putfield 375, 3) := by decide +kernel
theorem dX12_common_5 : decode cX12_common 5 = .ok (.aload_n 0, 1) := by decide +kernel
theorem dX12_common_6 : decode cX12_common 6 = .ok (.iload_n 1, 1) := by decide +kernel
theorem dX12_common_7 : decode cX12_common 7 = .ok (.iload_n 2, 1) := by decide +kernel
theorem dX12_common_8 : decode cX12_common 8 = .ok (.invokevirtual 460, 3) := by decide +kernel
theorem dX12_common_11 : decode cX12_common 11 = .ok (.ifCond .ne 5, 3) := by decide +kernel
theorem dX12_common_16 : decode cX12_common 16 = .ok (.aload_n 0, 1) := by decide +kernel
theorem dX12_common_17 : decode cX12_common 17 = .ok (.invokevirtual 467, 3) := by decide +kernel
theorem dX12_common_46 : decode cX12_common 46 = .ok (.iload 6, 2) := by decide +kernel
theorem dX12_common_48 : decode cX12_common 48 = .ok (.ifCond .ne 106, 3) := by decide +kernel
theorem dX12_common_154 : decode cX12_common 154 = .ok (.aload_n 0, 1) := by decide +kernel
theorem dX12_common_155 : decode cX12_common 155 = .ok (.getfield 116, 3) := by decide +kernel
theorem dX12_common_158 : decode cX12_common 158 = .ok (.aload_n 0, 1) := by decide +kernel
theorem dX12_common_159 : decode cX12_common 159 = .ok (.getfield 375, 3) := by decide +kernel
theorem dX12_common_162 : decode cX12_common 162 = .ok (.iload 5, 2) := by decide +kernel
theorem dX12_common_164 : decode cX12_common 164 = .ok (.iastore, 1) := by decide +kernel
theorem dX12_common_165 : decode cX12_common 165 = .ok (.aload_n 0, 1) := by decide +kernel
theorem dX12_common_166 : decode cX12_common 166 = .ok (.dup, 1) := by decide +kernel
theorem dX12_common_167 : decode cX12_common 167 = .ok (.getfield 375, 3) := by decide +kernel
theorem dX12_common_170 : decode cX12_common 170 = .ok (.iconst 1, 1) := by decide +kernel
theorem dX12_common_171 : decode cX12_common 171 = .ok (.iadd, 1) := by decide +kernel
theorem dX12_common_172 : decode cX12_common 172 = .ok (.putfield 375, 3) := by decide +kernel
theorem dX12_common_175 : decode cX12_common 175 = .ok (.iload 5, 2) := by decide +kernel
theorem dX12_common_177 : decode cX12_common 177 = .ok (.aload_n 0, 1) := by decide +kernel
theorem dX12_common_178 : decode cX12_common 178 = .ok (.getfield 95, 3) := by decide +kernel
theorem dX12_common_181 : decode cX12_common 181 = .ok (.iload_n 3, 1) := by decide +kernel
theorem dX12_common_182 : decode cX12_common 182 = .ok (.aload_n 0, 1) := by decide +kernel
theorem dX12_common_183 : decode cX12_common 183 = .ok (.getfield 384, 3) := by decide +kernel
theorem dX12_common_186 : decode cX12_common 186 = .ok (.invokestatic 470, 3) := by decide +kernel
theorem dX12_common_189 : decode cX12_common 189 = .ok (.iconst 1, 1) := by decide +kernel
theorem dX12_common_190 : decode cX12_common 190 = .ok (.iadd, 1) := by decide +kernel
theorem dX12_common_191 : decode cX12_common 191 = .ok (.istore_n 3, 1) := by decide +kernel
theorem dX12_common_192 : decode cX12_common 192 = .ok (.iload 5, 2) := by decide +kernel
theorem dX12_common_194 : decode cX12_common 194 = .ok (.aload_n 0, 1) := by decide +kernel
theorem dX12_common_195 : decode cX12_common 195 = .ok (.getfield 98, 3) := by decide +kernel
theorem dX12_common_198 : decode cX12_common 198 = .ok (.iload 4, 2) := by decide +kernel
theorem dX12_common_200 : decode cX12_common 200 = .ok (.aload_n 0, 1) := by decide +kernel
theorem dX12_common_201 : decode cX12_common 201 = .ok (.getfield 390, 3) := by decide +kernel
theorem dX12_common_204 : decode cX12_common 204 = .ok (.invokestatic 470, 3) := by decide +kernel
theorem dX12_common_207 : decode cX12_common 207 = .ok (.iconst 1, 1) := by decide +kernel
theorem dX12_common_208 : decode cX12_common 208 = .ok (.iadd, 1) := by decide +kernel
theorem dX12_common_209 : decode cX12_common 209 = .ok (.istore 4, 2) := by decide +kernel
theorem dX12_common_211 : decode cX12_common 211 = .ok (.goto (-186), 3) := by decide +kernel
theorem dX12_common_51 : decode cX12_common 51 = .ok (.iload 5, 2) := by decide +kernel
theorem dX12_common_53 : decode cX12_common 53 = .ok (.aload_n 0, 1) := by decide +kernel
theorem dX12_common_54 : decode cX12_common 54 = .ok (.getfield 95, 3) := by decide +kernel
theorem dX12_common_57 : decode cX12_common 57 = .ok (.iload_n 3, 1) := by decide +kernel
theorem dX12_common_58 : decode cX12_common 58 = .ok (.aload_n 0, 1) := by decide +kernel
theorem dX12_common_59 : decode cX12_common 59 = .ok (.getfield 384, 3) := by decide +kernel
theorem dX12_common_62 : decode cX12_common 62 = .ok (.invokestatic 470, 3) := by decide +kernel
theorem dX12_common_65 : decode cX12_common 65 = .ok (.istore 7, 2) := by decide +kernel
theorem dX12_common_67 : decode cX12_common 67 = .ok (.iload 5, 2) := by decide +kernel
theorem dX12_common_69 : decode cX12_common 69 = .ok (.aload_n 0, 1) := by decide +kernel
theorem dX12_common_70 : decode cX12_common 70 = .ok (.getfield 98, 3) := by decide +kernel
theorem dX12_common_73 : decode cX12_common 73 = .ok (.iload 4, 2) := by decide +kernel
theorem dX12_common_75 : decode cX12_common 75 = .ok (.aload_n 0, 1) := by decide +kernel
theorem dX12_common_76 : decode cX12_common 76 = .ok (.getfield 390, 3) := by decide +kernel
theorem dX12_common_79 : decode cX12_common 79 = .ok (.invokestatic 470, 3) := by decide +kernel
theorem dX12_common_82 : decode cX12_common 82 = .ok (.istore 8, 2) := by decide +kernel
theorem dX12_common_84 : decode cX12_common 84 = .ok (.iload 7, 2) := by decide +kernel
theorem dX12_common_86 : decode cX12_common 86 = .ok (.aload_n 0, 1) := by decide +kernel
theorem dX12_common_87 : decode cX12_common 87 = .ok (.getfield 384, 3) := by decide +kernel
theorem dX12_common_90 : decode cX12_common 90 = .ok (.if_icmp .ge 50, 3) := by decide +kernel
theorem dX12_common_140 : decode cX12_common 140 = .ok (.iconst 0, 1) := by decide +kernel
theorem dX12_common_141 : decode cX12_common 141 = .ok (.istore 6, 2) := by decide +kernel
theorem dX12_common_143 : decode cX12_common 143 = .ok (.iload 6, 2) := by decide +kernel
theorem dX12_common_145 : decode cX12_common 145 = .ok (.ifCond .ne 6, 3) := by decide +kernel
theorem dX12_common_148 : decode cX12_common 148 = .ok (.iinc 5 1, 3) := by decide +kernel
theorem dX12_common_151 : decode cX12_common 151 = .ok (.goto (-105), 3) := by decide +kernel
theorem dX12_common_93 : decode cX12_common 93 = .ok (.iload 8, 2) := by decide +kernel
theorem dX12_common_95 : decode cX12_common 95 = .ok (.aload_n 0, 1) := by decide +kernel
theorem dX12_common_96 : decode cX12_common 96 = .ok (.getfield 390, 3) := by decide +kernel
theorem dX12_common_99 : decode cX12_common 99 = .ok (.if_icmp .ge 41, 3) := by decide +kernel
theorem dX12_common_102 : decode cX12_common 102 = .ok (.aload_n 0, 1) := by decide +kernel
theorem dX12_common_103 : decode cX12_common 103 = .ok (.getfield 119, 3) := by decide +kernel
theorem dX12_common_106 : decode cX12_common 106 = .ok (.bipush 13, 2) := by decide +kernel
theorem dX12_common_108 : decode cX12_common 108 = .ok (.iload 7, 2) := by decide +kernel
theorem dX12_common_110 : decode cX12_common 110 = .ok (.iconst 1, 1) := by decide +kernel
theorem dX12_common_111 : decode cX12_common 111 = .ok (.iadd, 1) := by decide +kernel
theorem dX12_common_112 : decode cX12_common 112 = .ok (.imul, 1) := by decide +kernel
theorem dX12_common_113 : decode cX12_common 113 = .ok (.iload 8, 2) := by decide +kernel
theorem dX12_common_115 : decode cX12_common 115 = .ok (.iadd, 1) := by decide +kernel
theorem dX12_common_116 : decode cX12_common 116 = .ok (.iconst 1, 1) := by decide +kernel
theorem dX12_common_117 : decode cX12_common 117 = .ok (.iadd, 1) := by decide +kernel
theorem dX12_common_118 : decode cX12_common 118 = .ok (.iaload, 1) := by decide +kernel
theorem dX12_common_119 : decode cX12_common 119 = .ok (.aload_n 0, 1) := by decide +kernel
theorem dX12_common_120 : decode cX12_common 120 = .ok (.getfield 119, 3) := by decide +kernel
theorem dX12_common_123 : decode cX12_common 123 = .ok (.bipush 13, 2) := by decide +kernel
theorem dX12_common_125 : decode cX12_common 125 = .ok (.iload_n 3, 1) := by decide +kernel
theorem dX12_common_126 : decode cX12_common 126 = .ok (.imul, 1) := by decide +kernel
theorem dX12_common_127 : decode cX12_common 127 = .ok (.iload 4, 2) := by decide +kernel
theorem dX12_common_129 : decode cX12_common 129 = .ok (.iadd, 1) := by decide +kernel
theorem dX12_common_130 : decode cX12_common 130 = .ok (.iaload, 1) := by decide +kernel
theorem dX12_common_131 : decode cX12_common 131 = .ok (.iconst 1, 1) := by decide +kernel
theorem dX12_common_132 : decode cX12_common 132 = .ok (.isub, 1) := by decide +kernel
theorem dX12_common_133 : decode cX12_common 133 = .ok (.if_icmp .ne 7, 3) := by decide +kernel
theorem dX12_common_136 : decode cX12_common 136 = .ok (.iconst 1, 1) := by decide +kernel
theorem dX12_common_137 : decode cX12_common 137 = .ok (.goto 4, 3) := by decide +kernel
theorem dX12_common_25 : decode cX12_common 25 = .ok (.aload_n 0, 1) := by decide +kernel
theorem dX12_common_26 : decode cX12_common 26 = .ok (.getfield 119, 3) := by decide +kernel
theorem dX12_common_29 : decode cX12_common 29 = .ok (.bipush 13, 2) := by decide +kernel
theorem dX12_common_31 : decode cX12_common 31 = .ok (.iload_n 3, 1) := by decide +kernel
theorem dX12_common_32 : decode cX12_common 32 = .ok (.imul, 1) := by decide +kernel
theorem dX12_common_33 : decode cX12_common 33 = .ok (.iload 4, 2) := by decide +kernel
theorem dX12_common_35 : decode cX12_common 35 = .ok (.iadd, 1) := by decide +kernel
theorem dX12_common_36 : decode cX12_common 36 = .ok (.iaload, 1) := by decide +kernel
theorem dX12_common_37 : decode cX12_common 37 = .ok (.ifCond .le 177, 3) := by decide +kernel
theorem dX12_common_214 : decode cX12_common 214 = .ok (.aload_n 0, 1) := by decide +kernel
theorem dX12_common_215 : decode cX12_common 215 = .ok (.getfield 375, 3) := by decide +kernel
theorem dX12_common_218 : decode cX12_common 218 = .ok (.ireturn, 1) := by decide +kernel
theorem dX12_common_40 : decode cX12_common 40 = .ok (.iconst 0, 1) := by decide +kernel
theorem dX12_common_41 : decode cX12_common 41 = .ok (.istore 5, 2) := by decide +kernel
theorem dX12_common_43 : decode cX12_common 43 = .ok (.iconst 0, 1) := by decide +kernel
theorem dX12_common_44 : decode cX12_common 44 = .ok (.istore 6, 2) := by decide +kernel
theorem dX12_common_20 : decode cX12_common 20 = .ok (.iconst 0, 1) := by decide +kernel
theorem dX12_common_21 : decode cX12_common 21 = .ok (.istore_n 3, 1) := by decide +kernel
theorem dX12_common_22 : decode cX12_common 22 = .ok (.iconst 0, 1) := by decide +kernel
theorem dX12_common_23 : decode cX12_common 23 = .ok (.istore 4, 2) := by decide +kernel
theorem dX12_common_14 : decode cX12_common 14 = .ok (.iconst (-1), 1) := by decide +kernel
theorem dX12_common_15 : decode cX12_common 15 = .ok (.ireturn, 1) := by decide +kernel
set_option maxRecDepth 100000 in
set_option maxHeartbeats 4000000 in
theorem h_common {l : Launch} {E : (Nat → Prop) → State → Prop} {ad : List Nat} {D : va_G} {cy : Nat → ClassId} (h : fx_env E D classes (tys cy) nestW) (r : Nat) (u v0 : Int) (hr0 : ad[0]? = some r) (hu : rg u) (hv : rg v0) : hM l yX12_common cX12_common 9 (some .int) ({ frames := 3, cells := 0, slots := 0, locals := 66 }) E ad D cy (fun av ws => av = [.ref r, zv u, zv v0] ∧ True) (fun _ ws rv ws1 => fx_sm (gsM, TM, cy, fun _ => True) [(12, 45), (12, 46), (12, 47), (12, 55), (1000, 27), (1000, 28), (1000, 34), (1000, 35)] ws ws1 ∧ ∃ z, rv = some (zv z)) := by
  refine hM_of h (by decide) ?_
  intro av ws p e s m below meth c hwo hnd hpre hlocks hr C
  obtain ⟨rfl, hpre⟩ := hpre
  refine ⟨Nat.le_of_ble_eq_true rfl, ?_⟩
  simp only [rg] at hu hv
  refine hr_pick (lv' := [(0, .ref r), (1, zv u), (2, zv v0)]) [0, 1, 2] rfl ?_
  refine hr_aln C 0 dX12_common_0 rfl rfl rfl ?_
  refine hr_ic C dX12_common_1 rfl ?_
  refine hr_pI (lo := 0) (hi := 36) C hr0 TM0 rfl ⟨by decide, by decide⟩ pl_X12_375 dX12_common_2 (by omega) (by omega) rfl (fun w1 o2 s3 e4 => ?_)
  refine hr_aln C 0 dX12_common_5 rfl rfl rfl ?_
  refine hr_iln C 1 dX12_common_6 rfl rfl rfl ?_
  refine hr_iln C 2 dX12_common_7 rfl rfl rfl ?_
  refine hr_cV (As := [zv (u), zv (v0)]) (rest := []) C (h_layBoth h r (u) (v0) hr0 ⟨by omega, by omega⟩ ⟨by omega, by omega⟩) ⟨by decide, by decide⟩ iV_X12_layBoth g_X12_460 TM0 hr0 dX12_common_8 rfl rfl (Nat.le_of_ble_eq_true rfl) rfl ⟨rfl, trivial⟩ (fun w5 rv o6 q7 => ?_)
  obtain ⟨s8, z9, rfl, hz⟩ := q7
  have hz1 : z9 = 0 ∨ z9 = 1 := hz.elim Or.inl (fun q => Or.inr q.1)
  refine hr_norm (st' := [zv (z9)]) rfl ?_
  refine hr_if C 16 dX12_common_11 (by decide) ⟨by omega, by omega⟩ rfl (fun c10 => ?_) (fun c10 => ?_)
  · have c10 : ¬ (z9 : Int) = 0 := c10
    refine hr_aln C 0 dX12_common_16 rfl rfl rfl ?_
    obtain ⟨-, hs1, hs2, hl1, hl2, hl3⟩ := hz.resolve_left (by omega)
    have hlen := And.intro hl1.1 (And.intro hl2.1 (And.intro hl1.2.1 (And.intro hl1.2.2.1 (And.intro hl2.2.1 hl2.2.2.1))))
    refine hr_cV (As := []) (rest := []) C (h_layShared h r (vi w5 0 45) (vi w5 0 46) (vi w5 27) (vi w5 28) hr0 ⟨by omega, by omega, by omega, by omega⟩) ⟨by decide, by decide⟩ iV_X12_layShared g_X12_467 TM0 hr0 dX12_common_17 rfl rfl (Nat.le_of_ble_eq_true rfl) rfl ⟨rfl, rfl, rfl, fun _ => rfl, fun _ => rfl⟩ (fun w11 rv o12 q13 => ?_)
    obtain ⟨s14, rfl, hal0⟩ := q13
    have f45 : vi w11 0 45 = vi w5 0 45 := sm_f o6 o12 s14 (by decide)
    have f46 : vi w11 0 46 = vi w5 0 46 := sm_f o6 o12 s14 (by decide)
    have f27 : vi w11 27 = vi w5 27 := funext fun j => sm_a o6 o12 s14 TMa_27 (by decide)
    have f28 : vi w11 28 = vi w5 28 := funext fun j => sm_a o6 o12 s14 TMa_28 (by decide)
    have hal : SAL (vi w11 0 45) (vi w11 0 46) (vi w11 27) (vi w11 28) (vi w11 35) (-1) := by rw [f45, f46, f27, f28]; exact hal0
    have hLL : 0 ≤ vi w11 0 45 ∧ vi w11 0 45 ≤ 8 ∧ 0 ≤ vi w11 0 46 ∧ vi w11 0 46 ≤ 8 := by rw [f45, f46]; omega
    have outer : ∀ (q : Nat) (a b : Int) (w : va_W), (vi w11 0 45 - a).toNat < q → fx_wo (gsM, TM, cy, fun _ => True) ad w → fx_sm (gsM, TM, cy, fun _ => True) [(12, 55), (1000, 34)] w11 w → 0 ≤ a → a ≤ vi w11 0 45 → 0 ≤ b → b ≤ vi w11 0 46 → 0 ≤ vi w 0 55 → vi w 0 55 ≤ a → HW l E ad D cy (va_A ws s.heap.size) s.heap p e ({ frames := 3, cells := 0, slots := 0, locals := 66 }) s m ([.ref r, zv u, zv v0]).toArray below meth c (MQ below (hQ ad D cy (fun _ ws rv ws1 => fx_sm (gsM, TM, cy, fun _ => True) [(12, 45), (12, 46), (12, 47), (12, 55), (1000, 27), (1000, 28), (1000, 34), (1000, 35)] ws ws1 ∧ ∃ z, rv = some (zv z)) ([.ref r, zv u, zv v0]) ws s.heap.size) ([.ref r, zv u, zv v0]).toArray s 0 0 (va_A ws s.heap.size)) cX12_common 9 yX12_common.cls 25 [(0, .ref r), (3, zv a), (4, zv b)] [] w := by
      intro q
      induction q with
      | zero => intro a b w hq how sm h1 h2; omega
      | succ q ih =>
        intro a b w hq how sm h1 h2 h3 h4 hl1 hl2
        have hN0 := (lc_eq hal (a := a) (b := b) ⟨h1, h2, h3, h4⟩).2
        simp only [ix2] at hN0
        have exitK : ∀ (v x y : Int), 0 ≤ v → v ≤ 8 → isF (vi w11 27) v a (vi w11 0 45) x → isF (vi w11 28) v b (vi w11 0 46) y → x < vi w11 0 45 → y < vi w11 0 46 → HW l E ad D cy (va_A ws s.heap.size) s.heap p e ({ frames := 3, cells := 0, slots := 0, locals := 66 }) s m ([.ref r, zv u, zv v0]).toArray below meth c (MQ below (hQ ad D cy (fun _ ws rv ws1 => fx_sm (gsM, TM, cy, fun _ => True) [(12, 45), (12, 46), (12, 47), (12, 55), (1000, 27), (1000, 28), (1000, 34), (1000, 35)] ws ws1 ∧ ∃ z, rv = some (zv z)) ([.ref r, zv u, zv v0]) ws s.heap.size) ([.ref r, zv u, zv v0]).toArray s 0 0 (va_A ws s.heap.size)) cX12_common 9 yX12_common.cls 46 [(0, .ref r), (3, zv a), (4, zv b), (5, zv v), (6, zv 1)] [] w := by
          intro v x y hv0 hv1 hfx hfy hx hy
          have bx := And.intro hfx.1 hfx.2.1
          have by_ := And.intro hfy.1 hfy.2.1
          refine hr_il C 4 dX12_common_46 rfl rfl ?_
          refine hr_if C 154 dX12_common_48 (by decide) ⟨by omega, by omega⟩ rfl (fun c1 => ?_) (fun c1 => absurd (show (1 : Int) = 0 from c1) (by omega))
          have c1 : ¬ (1 : Int) = 0 := c1
          refine hr_aln C 0 dX12_common_154 rfl rfl rfl ?_
          refine hr_gA (g := 34) C hr0 TM0 rfl (by decide) fl_X12_116 dX12_common_155 rfl (fun a2 ha3 => ?_)
          refine hr_aln C 0 dX12_common_158 rfl rfl rfl ?_
          refine hr_gI (lo := 0) (hi := 36) C hr0 TM0 rfl fl_X12_375 dX12_common_159 rfl (fun b4 b5 => ?_)
          refine hr_il C 3 dX12_common_162 rfl rfl ?_
          refine hr_ast C ha3 TMa_34 (by omega) (by omega) (by decide) ⟨by omega, by omega⟩ (hp1 (by omega) (by omega)) dX12_common_164 rfl (fun w6 o7 s8 e9 => ?_)
          refine hr_aln C 0 dX12_common_165 rfl rfl rfl ?_
          refine hr_dup C dX12_common_166 rfl rfl ?_
          refine hr_gI (lo := 0) (hi := 36) C hr0 TM0 rfl fl_X12_375 dX12_common_167 rfl (fun b10 b11 => ?_)
          have q12 : vi w6 0 55 = vi w 0 55 := by rw [e9, if_neg (by omega)]
          rw [q12] at b10 b11 ⊢
          refine hr_ic C dX12_common_170 rfl ?_
          refine hr_add C dX12_common_171 rfl ?_
          refine hr_pI (lo := 0) (hi := 36) C hr0 TM0 rfl ⟨by decide, by decide⟩ pl_X12_375 dX12_common_172 (by omega) (by omega) rfl (fun w13 o14 s15 e16 => ?_)
          refine hr_il C 3 dX12_common_175 rfl rfl ?_
          refine hr_aln C 0 dX12_common_177 rfl rfl rfl ?_
          refine hr_gA (g := 27) C hr0 TM0 rfl (by decide) fl_X12_95 dX12_common_178 rfl (fun a17 ha18 => ?_)
          refine hr_iln C 1 dX12_common_181 rfl rfl rfl ?_
          refine hr_aln C 0 dX12_common_182 rfl rfl rfl ?_
          refine hr_gI (lo := 0) (hi := 12) C hr0 TM0 rfl fl_X12_384 dX12_common_183 rfl (fun b19 b20 => ?_)
          have q21 : vi w13 0 45 = vi w11 0 45 := by rw [e16, if_neg (by omega)]; rw [e9, if_neg (by omega)]; rw [sm_f o12 how sm (by decide)]
          rw [q21] at b19 b20 ⊢
          refine hr_cS (As := [zv (v), .ref a17, zv (a), zv (vi w11 0 45)]) (rest := []) C (h_firstOf27 h a17 (v) (a) (vi w11 0 45) ha18 ⟨by omega, by omega⟩ ⟨by omega, by omega⟩ (by omega)) ⟨by decide, by decide⟩ iS_X12_firstOf g_X12_470 dX12_common_186 rfl rfl (Nat.le_of_ble_eq_true rfl) rfl ⟨rfl, trivial⟩ (fun w22 rv o23 q24 => ?_)
          obtain ⟨rfl, x25, rfl, hf26⟩ := q24
          have ehf26 : vi w13 27 = vi w11 27 := funext fun j => by show vi w13 27 (j) = _; rw [e16, if_neg (by omega)]; rw [e9, if_neg (by omega)]; rw [sm_a o12 how sm TMa_27 (by decide)]
          rw [ehf26] at hf26
          have bhf26 := And.intro hf26.1 hf26.2.1
          refine hr_norm (st' := [zv (x25)]) rfl ?_
          refine hr_ic C dX12_common_189 rfl ?_
          refine hr_add C dX12_common_190 rfl ?_
          refine hr_isn (lv' := [(3, zv (x25 + 1)), (0, .ref r), (4, zv (b)), (5, zv (v)), (6, zv (1))]) C dX12_common_191 rfl (by decide) rfl rfl ?_
          refine hr_il C 3 dX12_common_192 rfl rfl ?_
          refine hr_aln C 1 dX12_common_194 rfl rfl rfl ?_
          refine hr_gA (g := 28) C hr0 TM0 rfl (by decide) fl_X12_98 dX12_common_195 rfl (fun a27 ha28 => ?_)
          refine hr_il C 2 dX12_common_198 rfl rfl ?_
          refine hr_aln C 1 dX12_common_200 rfl rfl rfl ?_
          refine hr_gI (lo := 0) (hi := 12) C hr0 TM0 rfl fl_X12_390 dX12_common_201 rfl (fun b29 b30 => ?_)
          have q31 : vi w13 0 46 = vi w11 0 46 := by rw [e16, if_neg (by omega)]; rw [e9, if_neg (by omega)]; rw [sm_f o12 how sm (by decide)]
          rw [q31] at b29 b30 ⊢
          refine hr_cS (As := [zv (v), .ref a27, zv (b), zv (vi w11 0 46)]) (rest := []) C (h_firstOf28 h a27 (v) (b) (vi w11 0 46) ha28 ⟨by omega, by omega⟩ ⟨by omega, by omega⟩ (by omega)) ⟨by decide, by decide⟩ iS_X12_firstOf g_X12_470 dX12_common_204 rfl rfl (Nat.le_of_ble_eq_true rfl) rfl ⟨rfl, trivial⟩ (fun w32 rv o33 q34 => ?_)
          obtain ⟨rfl, x35, rfl, hf36⟩ := q34
          have ehf36 : vi w13 28 = vi w11 28 := funext fun j => by show vi w13 28 (j) = _; rw [e16, if_neg (by omega)]; rw [e9, if_neg (by omega)]; rw [sm_a o12 how sm TMa_28 (by decide)]
          rw [ehf36] at hf36
          have bhf36 := And.intro hf36.1 hf36.2.1
          refine hr_norm (st' := [zv (x35)]) rfl ?_
          refine hr_ic C dX12_common_207 rfl ?_
          refine hr_add C dX12_common_208 rfl ?_
          refine hr_is (lv' := [(4, zv (x35 + 1)), (3, zv (x25 + 1)), (0, .ref r), (5, zv (v)), (6, zv (1))]) C dX12_common_209 (by decide) rfl rfl ?_
          refine hr_goto C 25 dX12_common_211 (by decide) ?_
          have u1 := isF_u h1 hfx hf26
          have u2 := isF_u h3 hfy hf36
          have k0 : vi w13 0 55 = (vi w 0 55) + 1 := by rw [e16, if_pos ⟨rfl, rfl⟩]
          refine hr_pick (lv' := [(0, .ref r), (3, zv (x25 + 1)), (4, zv (x35 + 1))]) [2, 1, 0] rfl ?_
          exact ih _ _ _ (by omega) o14 (fx_sm_tr (fx_sm_tr (fx_sm_tr fx_sm_refl sm (by decide)) s8 (by decide)) s15 (by decide)) (by omega) (by omega) (by omega) (by omega) (by omega) (by omega)
        have inner : ∀ (vs xs ys : Int), 0 ≤ vs → vs ≤ 8 → isF (vi w11 27) vs a (vi w11 0 45) xs → isF (vi w11 28) vs b (vi w11 0 46) ys → xs < vi w11 0 45 → ys < vi w11 0 46 → vi w11 35 (Int.toNat (13 * (xs + 1) + ys + 1)) = vi w11 35 (Int.toNat (13 * a + b)) - 1 → ∀ (n : Nat) (v : Int), (vs - v).toNat < n → 0 ≤ v → v ≤ vs → HW l E ad D cy (va_A ws s.heap.size) s.heap p e ({ frames := 3, cells := 0, slots := 0, locals := 66 }) s m ([.ref r, zv u, zv v0]).toArray below meth c (MQ below (hQ ad D cy (fun _ ws rv ws1 => fx_sm (gsM, TM, cy, fun _ => True) [(12, 45), (12, 46), (12, 47), (12, 55), (1000, 27), (1000, 28), (1000, 34), (1000, 35)] ws ws1 ∧ ∃ z, rv = some (zv z)) ([.ref r, zv u, zv v0]) ws s.heap.size) ([.ref r, zv u, zv v0]).toArray s 0 0 (va_A ws s.heap.size)) cX12_common 9 yX12_common.cls 46 [(0, .ref r), (3, zv a), (4, zv b), (5, zv v), (6, zv 0)] [] w := by
          intro vs xs ys g0 g8 gx gy gx1 gy1 gN n
          induction n with
          | zero => intro v hn; omega
          | succ n ihn =>
            intro v hn hv0 hv1
            refine hr_il C 4 dX12_common_46 rfl rfl ?_
            refine hr_if C 154 dX12_common_48 (by decide) ⟨by omega, by omega⟩ rfl (fun c1 => absurd (show ¬ (0 : Int) = 0 from c1) (by omega)) (fun c1 => ?_)
            have c1 : (0 : Int) = 0 := c1
            refine hr_il C 3 dX12_common_51 rfl rfl ?_
            refine hr_aln C 0 dX12_common_53 rfl rfl rfl ?_
            refine hr_gA (g := 27) C hr0 TM0 rfl (by decide) fl_X12_95 dX12_common_54 rfl (fun a2 ha3 => ?_)
            refine hr_iln C 1 dX12_common_57 rfl rfl rfl ?_
            refine hr_aln C 0 dX12_common_58 rfl rfl rfl ?_
            refine hr_gI (lo := 0) (hi := 12) C hr0 TM0 rfl fl_X12_384 dX12_common_59 rfl (fun b4 b5 => ?_)
            have q6 : vi w 0 45 = vi w11 0 45 := by rw [sm_f o12 how sm (by decide)]
            rw [q6] at b4 b5 ⊢
            refine hr_cS (As := [zv (v), .ref a2, zv (a), zv (vi w11 0 45)]) (rest := []) C (h_firstOf27 h a2 (v) (a) (vi w11 0 45) ha3 ⟨by omega, by omega⟩ ⟨by omega, by omega⟩ (by omega)) ⟨by decide, by decide⟩ iS_X12_firstOf g_X12_470 dX12_common_62 rfl rfl (Nat.le_of_ble_eq_true rfl) rfl ⟨rfl, trivial⟩ (fun w7 rv o8 q9 => ?_)
            obtain ⟨rfl, x10, rfl, hf11⟩ := q9
            have ehf11 : vi w 27 = vi w11 27 := funext fun j => by show vi w 27 (j) = _; rw [sm_a o12 how sm TMa_27 (by decide)]
            rw [ehf11] at hf11
            have bhf11 := And.intro hf11.1 hf11.2.1
            refine hr_norm (st' := [zv (x10)]) rfl ?_
            refine hr_is (lv' := [(7, zv (x10)), (0, .ref r), (3, zv (a)), (4, zv (b)), (5, zv (v)), (6, zv (0))]) C dX12_common_65 (by decide) rfl rfl ?_
            refine hr_il C 4 dX12_common_67 rfl rfl ?_
            refine hr_aln C 1 dX12_common_69 rfl rfl rfl ?_
            refine hr_gA (g := 28) C hr0 TM0 rfl (by decide) fl_X12_98 dX12_common_70 rfl (fun a12 ha13 => ?_)
            refine hr_il C 3 dX12_common_73 rfl rfl ?_
            refine hr_aln C 1 dX12_common_75 rfl rfl rfl ?_
            refine hr_gI (lo := 0) (hi := 12) C hr0 TM0 rfl fl_X12_390 dX12_common_76 rfl (fun b14 b15 => ?_)
            have q16 : vi w 0 46 = vi w11 0 46 := by rw [sm_f o12 how sm (by decide)]
            rw [q16] at b14 b15 ⊢
            refine hr_cS (As := [zv (v), .ref a12, zv (b), zv (vi w11 0 46)]) (rest := []) C (h_firstOf28 h a12 (v) (b) (vi w11 0 46) ha13 ⟨by omega, by omega⟩ ⟨by omega, by omega⟩ (by omega)) ⟨by decide, by decide⟩ iS_X12_firstOf g_X12_470 dX12_common_79 rfl rfl (Nat.le_of_ble_eq_true rfl) rfl ⟨rfl, trivial⟩ (fun w17 rv o18 q19 => ?_)
            obtain ⟨rfl, x20, rfl, hf21⟩ := q19
            have ehf21 : vi w 28 = vi w11 28 := funext fun j => by show vi w 28 (j) = _; rw [sm_a o12 how sm TMa_28 (by decide)]
            rw [ehf21] at hf21
            have bhf21 := And.intro hf21.1 hf21.2.1
            refine hr_norm (st' := [zv (x20)]) rfl ?_
            refine hr_is (lv' := [(8, zv (x20)), (7, zv (x10)), (0, .ref r), (3, zv (a)), (4, zv (b)), (5, zv (v)), (6, zv (0))]) C dX12_common_82 (by decide) rfl rfl ?_
            refine hr_il C 1 dX12_common_84 rfl rfl ?_
            refine hr_aln C 2 dX12_common_86 rfl rfl rfl ?_
            refine hr_gI (lo := 0) (hi := 12) C hr0 TM0 rfl fl_X12_384 dX12_common_87 rfl (fun b22 b23 => ?_)
            have q24 : vi w 0 45 = vi w11 0 45 := by rw [sm_f o12 how sm (by decide)]
            rw [q24] at b22 b23 ⊢
            refine hr_cmp C 140 dX12_common_90 (by decide) ⟨by omega, by omega⟩ ⟨by omega, by omega⟩ rfl (fun c25 => ?_) (fun c25 => ?_)
            · have c25 : (vi w11 0 45 : Int) ≤ x10 := c25
              refine hr_ic C dX12_common_140 rfl ?_
              refine hr_is (lv' := [(6, zv (0)), (8, zv (x20)), (7, zv (x10)), (0, .ref r), (3, zv (a)), (4, zv (b)), (5, zv (v))]) C dX12_common_141 (by decide) rfl rfl ?_
              refine hr_il C 0 dX12_common_143 rfl rfl ?_
              refine hr_if C 151 dX12_common_145 (by decide) ⟨by omega, by omega⟩ rfl (fun c26 => absurd (show ¬ (0 : Int) = 0 from c26) (by omega)) (fun c26 => ?_)
              have c26 : (0 : Int) = 0 := c26
              refine hr_inc (lv' := [(5, zv (v + 1)), (6, zv (0)), (8, zv (x20)), (7, zv (x10)), (0, .ref r), (3, zv (a)), (4, zv (b))]) C 6 dX12_common_148 rfl (by decide) rfl rfl ?_
              refine hr_goto C 46 dX12_common_151 (by decide) ?_
              have hvne : ¬ v = vs := fun e => by
                subst e
                have u1 := isF_u h1 gx hf11
                have u2 := isF_u h3 gy hf21
                subst u1
                subst u2
                omega
              refine hr_pick (lv' := [(0, .ref r), (3, zv (a)), (4, zv (b)), (5, zv (v + 1)), (6, zv (0))]) [4, 5, 6, 0, 1] rfl ?_
              exact ihn _ (by omega) (by omega) (by omega)
            · have c25 : (x10 : Int) < vi w11 0 45 := c25
              refine hr_il C 0 dX12_common_93 rfl rfl ?_
              refine hr_aln C 2 dX12_common_95 rfl rfl rfl ?_
              refine hr_gI (lo := 0) (hi := 12) C hr0 TM0 rfl fl_X12_390 dX12_common_96 rfl (fun b27 b28 => ?_)
              have q29 : vi w 0 46 = vi w11 0 46 := by rw [sm_f o12 how sm (by decide)]
              rw [q29] at b27 b28 ⊢
              refine hr_cmp C 140 dX12_common_99 (by decide) ⟨by omega, by omega⟩ ⟨by omega, by omega⟩ rfl (fun c30 => ?_) (fun c30 => ?_)
              · have c30 : (vi w11 0 46 : Int) ≤ x20 := c30
                refine hr_ic C dX12_common_140 rfl ?_
                refine hr_is (lv' := [(6, zv (0)), (8, zv (x20)), (7, zv (x10)), (0, .ref r), (3, zv (a)), (4, zv (b)), (5, zv (v))]) C dX12_common_141 (by decide) rfl rfl ?_
                refine hr_il C 0 dX12_common_143 rfl rfl ?_
                refine hr_if C 151 dX12_common_145 (by decide) ⟨by omega, by omega⟩ rfl (fun c31 => absurd (show ¬ (0 : Int) = 0 from c31) (by omega)) (fun c31 => ?_)
                have c31 : (0 : Int) = 0 := c31
                refine hr_inc (lv' := [(5, zv (v + 1)), (6, zv (0)), (8, zv (x20)), (7, zv (x10)), (0, .ref r), (3, zv (a)), (4, zv (b))]) C 6 dX12_common_148 rfl (by decide) rfl rfl ?_
                refine hr_goto C 46 dX12_common_151 (by decide) ?_
                have hvne : ¬ v = vs := fun e => by
                  subst e
                  have u1 := isF_u h1 gx hf11
                  have u2 := isF_u h3 gy hf21
                  subst u1
                  subst u2
                  omega
                refine hr_pick (lv' := [(0, .ref r), (3, zv (a)), (4, zv (b)), (5, zv (v + 1)), (6, zv (0))]) [4, 5, 6, 0, 1] rfl ?_
                exact ihn _ (by omega) (by omega) (by omega)
              · have c30 : (x20 : Int) < vi w11 0 46 := c30
                have hN1 := (lc_eq hal (a := x10 + 1) (b := x20 + 1) ⟨by omega, by omega, by omega, by omega⟩).2
                simp only [ix2] at hN1
                rw [show 13 * (x10 + 1) + (x20 + 1) = 13 * (x10 + 1) + x20 + 1 by omega] at hN1
                refine hr_aln C 2 dX12_common_102 rfl rfl rfl ?_
                refine hr_gA (g := 35) C hr0 TM0 rfl (by decide) fl_X12_119 dX12_common_103 rfl (fun a32 ha33 => ?_)
                refine hr_bi C dX12_common_106 (by decide +kernel) rfl ?_
                refine hr_il C 1 dX12_common_108 rfl rfl ?_
                refine hr_ic C dX12_common_110 rfl ?_
                refine hr_add C dX12_common_111 rfl ?_
                refine hr_mul C dX12_common_112 rfl ?_
                refine hr_il C 0 dX12_common_113 rfl rfl ?_
                refine hr_add C dX12_common_115 rfl ?_
                refine hr_ic C dX12_common_116 rfl ?_
                refine hr_add C dX12_common_117 rfl ?_
                refine hr_ald C ha33 TMa_35 (by omega) (by omega) (by decide) dX12_common_118 rfl (fun b34 b35 => ?_)
                have b34 := gp1 b34
                have q36 : vi w 35 (Int.toNat (((13 * (x10 + 1)) + x20) + 1)) = vi w11 35 (Int.toNat (((13 * (x10 + 1)) + x20) + 1)) := by rw [sm_a o12 how sm TMa_35 (by decide)]
                rw [q36] at b34 b35 ⊢
                simp only [rg] at b35
                refine hr_aln C 2 dX12_common_119 rfl rfl rfl ?_
                refine hr_gA (g := 35) C hr0 TM0 rfl (by decide) fl_X12_119 dX12_common_120 rfl (fun a37 ha38 => ?_)
                refine hr_bi C dX12_common_123 (by decide +kernel) rfl ?_
                refine hr_iln C 3 dX12_common_125 rfl rfl rfl ?_
                refine hr_mul C dX12_common_126 rfl ?_
                refine hr_il C 4 dX12_common_127 rfl rfl ?_
                refine hr_add C dX12_common_129 rfl ?_
                refine hr_ald C ha38 TMa_35 (by omega) (by omega) (by decide) dX12_common_130 rfl (fun b39 b40 => ?_)
                have b39 := gp1 b39
                have q41 : vi w 35 (Int.toNat ((13 * a) + b)) = vi w11 35 (Int.toNat ((13 * a) + b)) := by rw [sm_a o12 how sm TMa_35 (by decide)]
                rw [q41] at b39 b40 ⊢
                simp only [rg] at b40
                refine hr_ic C dX12_common_131 rfl ?_
                refine hr_sub C dX12_common_132 rfl ?_
                refine hr_cmp C 140 dX12_common_133 (by decide) ⟨by omega, by omega⟩ ⟨by omega, by omega⟩ rfl (fun c42 => ?_) (fun c42 => ?_)
                · have c42 : ¬ (vi w11 35 (Int.toNat (((13 * (x10 + 1)) + x20) + 1)) : Int) = (vi w11 35 (Int.toNat ((13 * a) + b))) - 1 := c42
                  refine hr_ic C dX12_common_140 rfl ?_
                  refine hr_is (lv' := [(6, zv (0)), (8, zv (x20)), (7, zv (x10)), (0, .ref r), (3, zv (a)), (4, zv (b)), (5, zv (v))]) C dX12_common_141 (by decide) rfl rfl ?_
                  refine hr_il C 0 dX12_common_143 rfl rfl ?_
                  refine hr_if C 151 dX12_common_145 (by decide) ⟨by omega, by omega⟩ rfl (fun c43 => absurd (show ¬ (0 : Int) = 0 from c43) (by omega)) (fun c43 => ?_)
                  have c43 : (0 : Int) = 0 := c43
                  refine hr_inc (lv' := [(5, zv (v + 1)), (6, zv (0)), (8, zv (x20)), (7, zv (x10)), (0, .ref r), (3, zv (a)), (4, zv (b))]) C 6 dX12_common_148 rfl (by decide) rfl rfl ?_
                  refine hr_goto C 46 dX12_common_151 (by decide) ?_
                  have hvne : ¬ v = vs := fun e => by
                    subst e
                    have u1 := isF_u h1 gx hf11
                    have u2 := isF_u h3 gy hf21
                    subst u1
                    subst u2
                    omega
                  refine hr_pick (lv' := [(0, .ref r), (3, zv (a)), (4, zv (b)), (5, zv (v + 1)), (6, zv (0))]) [4, 5, 6, 0, 1] rfl ?_
                  exact ihn _ (by omega) (by omega) (by omega)
                · have c42 : (vi w11 35 (Int.toNat (((13 * (x10 + 1)) + x20) + 1)) : Int) = (vi w11 35 (Int.toNat ((13 * a) + b))) - 1 := c42
                  refine hr_ic C dX12_common_136 rfl ?_
                  refine hr_goto C 141 dX12_common_137 (by decide) ?_
                  refine hr_is (lv' := [(6, zv (1)), (8, zv (x20)), (7, zv (x10)), (0, .ref r), (3, zv (a)), (4, zv (b)), (5, zv (v))]) C dX12_common_141 (by decide) rfl rfl ?_
                  refine hr_il C 0 dX12_common_143 rfl rfl ?_
                  refine hr_if C 151 dX12_common_145 (by decide) ⟨by omega, by omega⟩ rfl (fun c44 => ?_) (fun c44 => absurd (show (1 : Int) = 0 from c44) (by omega))
                  have c44 : ¬ (1 : Int) = 0 := c44
                  refine hr_goto C 46 dX12_common_151 (by decide) ?_
                  refine hr_pick (lv' := [(0, .ref r), (3, zv (a)), (4, zv (b)), (5, zv (v)), (6, zv (1))]) [3, 4, 5, 6, 0] rfl ?_
                  exact exitK v x10 x20 (by omega) (by omega) hf11 hf21 (by omega) (by omega)
        refine hr_aln C 0 dX12_common_25 rfl rfl rfl ?_
        refine hr_gA (g := 35) C hr0 TM0 rfl (by decide) fl_X12_119 dX12_common_26 rfl (fun a1 ha2 => ?_)
        refine hr_bi C dX12_common_29 (by decide +kernel) rfl ?_
        refine hr_iln C 1 dX12_common_31 rfl rfl rfl ?_
        refine hr_mul C dX12_common_32 rfl ?_
        refine hr_il C 2 dX12_common_33 rfl rfl ?_
        refine hr_add C dX12_common_35 rfl ?_
        refine hr_ald C ha2 TMa_35 (by omega) (by omega) (by decide) dX12_common_36 rfl (fun b3 b4 => ?_)
        have b3 := gp1 b3
        have q5 : vi w 35 (Int.toNat ((13 * a) + b)) = vi w11 35 (Int.toNat ((13 * a) + b)) := by rw [sm_a o12 how sm TMa_35 (by decide)]
        rw [q5] at b3 b4 ⊢
        simp only [rg] at b4
        refine hr_if C 214 dX12_common_37 (by decide) ⟨by omega, by omega⟩ rfl (fun c6 => ?_) (fun c6 => ?_)
        · have c6 : (vi w11 35 (Int.toNat ((13 * a) + b)) : Int) ≤ 0 := c6
          refine hr_aln C 0 dX12_common_214 rfl rfl rfl ?_
          refine hr_gI (lo := 0) (hi := 36) C hr0 TM0 rfl fl_X12_375 dX12_common_215 rfl (fun b7 b8 => ?_)
          exact hr_iret C hlocks hr dX12_common_218 ⟨(fx_sm_tr (fx_sm_tr (fx_sm_tr (fx_sm_tr fx_sm_refl s3 (by decide)) s8 (by decide)) s14 (by decide)) sm (by decide)), _, rfl⟩
        · have c6 : (0 : Int) < vi w11 35 (Int.toNat ((13 * a) + b)) := c6
          refine hr_ic C dX12_common_40 rfl ?_
          refine hr_is (lv' := [(5, zv (0)), (0, .ref r), (3, zv (a)), (4, zv (b))]) C dX12_common_41 (by decide) rfl rfl ?_
          refine hr_ic C dX12_common_43 rfl ?_
          refine hr_is (lv' := [(6, zv (0)), (5, zv (0)), (0, .ref r), (3, zv (a)), (4, zv (b))]) C dX12_common_44 (by decide) rfl rfl ?_
          have hp : 0 < vi w11 35 (ix2 a b) := by simp only [ix2]; omega
          obtain ⟨vs, xs, ys, gx, gy, gx1, gy1, gN⟩ := lc_ex hal _ a b ⟨h1, h2, h3, h4⟩ (Nat.lt_succ_self _) hp
          simp only [ix2] at gN
          rw [show 13 * (xs + 1) + (ys + 1) = 13 * (xs + 1) + ys + 1 by omega] at gN
          have gxx := And.intro gx.1 gx.2.1
          have hb := el_b (fi := 42) (g := 27) (n := 12) (lo := 0) (hi := 8) (j := xs.toNat) o12 hr0 rfl (by decide) TMa_27 (by omega)
          rw [gx.2.2.2 gx1] at hb
          refine hr_pick (lv' := [(0, .ref r), (3, zv (a)), (4, zv (b)), (5, zv (0)), (6, zv (0))]) [2, 3, 4, 1, 0] rfl ?_
          exact inner vs xs ys (by omega) (by omega) gx gy gx1 gy1 gN _ 0 (Nat.lt_succ_self _) (by omega) (by omega)
    refine hr_ic C dX12_common_20 rfl ?_
    refine hr_isn (lv' := [(3, zv (0)), (0, .ref r), (1, zv (u)), (2, zv (v0))]) C dX12_common_21 rfl (by decide) rfl rfl ?_
    refine hr_ic C dX12_common_22 rfl ?_
    refine hr_is (lv' := [(4, zv (0)), (3, zv (0)), (0, .ref r), (1, zv (u)), (2, zv (v0))]) C dX12_common_23 (by decide) rfl rfl ?_
    have k0 : vi w11 0 55 = 0 := by rw [sm_f o6 o12 s14 (by decide)]; rw [sm_f o2 o6 s8 (by decide)]; rw [e4, if_pos ⟨rfl, rfl⟩]
    refine hr_pick (lv' := [(0, .ref r), (3, zv (0)), (4, zv (0))]) [2, 1, 0] rfl ?_
    exact outer _ 0 0 _ (Nat.lt_succ_self _) o12 fx_sm_refl (by omega) (by omega) (by omega) (by omega) (by omega) (by omega)
  · have c10 : (z9 : Int) = 0 := c10
    refine hr_ic C dX12_common_14 rfl ?_
    exact hr_iret C hlocks hr dX12_common_15 ⟨(fx_sm_tr (fx_sm_tr fx_sm_refl s3 (by decide)) s8 (by decide)), _, rfl⟩
