theorem m_10 : Cond.instanceMethod objectInit ∈ wsL_law := in_wsL_law_r1 _ (List.mem_of_getElem? (i := 10) rfl)
theorem m_11 : Cond.code objectInit ⟨#[0xb1]⟩ 1 none ∈ wsL_law := in_wsL_law_r1 _ (List.mem_of_getElem? (i := 11) rfl)
theorem m_37 : Cond.instantiable RX1 2 ∈ wsL_law := in_wsL_law_r2 _ (List.mem_of_getElem? (i := 13) rfl)
theorem m_63 : Cond.arrayClass .long ∈ wsL_law := in_wsL_law_r3 _ (List.mem_of_getElem? (i := 15) rfl)
theorem m_117 : Cond.methodLink RX10 3 objectInit ∈ wsL_law := in_wsL_law_r5 _ (List.mem_of_getElem? (i := 21) rfl)
theorem m_119 : Cond.arrayClass .int ∈ wsL_law := in_wsL_law_r5 _ (List.mem_of_getElem? (i := 23) rfl)
theorem m_122 : Cond.arrayClass .boolean ∈ wsL_law := in_wsL_law_r6 _ (List.mem_of_getElem? (i := 2) rfl)
theorem m_124 : Cond.classLink RX10 26 RX1 ∈ wsL_law := in_wsL_law_r6 _ (List.mem_of_getElem? (i := 4) rfl)
theorem m_127 : Cond.classLink RX10 39 RX0 ∈ wsL_law := in_wsL_law_r6 _ (List.mem_of_getElem? (i := 7) rfl)
theorem m_128 : Cond.instantiable RX0 8 ∈ wsL_law := in_wsL_law_r6 _ (List.mem_of_getElem? (i := 8) rfl)
theorem m_131 : Cond.methodLink RX10 28 yX1_init ∈ wsL_law := in_wsL_law_r6 _ (List.mem_of_getElem? (i := 11) rfl)
theorem m_132 : Cond.instanceMethod yX1_init ∈ wsL_law := in_wsL_law_r6 _ (List.mem_of_getElem? (i := 12) rfl)
theorem m_133 : Cond.code yX1_init cX1_init 2 none ∈ wsL_law := in_wsL_law_r6 _ (List.mem_of_getElem? (i := 13) rfl)
theorem m_134 : Cond.methodLink RX1 3 objectInit ∈ wsL_law := in_wsL_law_r6 _ (List.mem_of_getElem? (i := 14) rfl)
theorem m_141 : Cond.methodLink RX10 41 yX0_init ∈ wsL_law := in_wsL_law_r6 _ (List.mem_of_getElem? (i := 21) rfl)
theorem m_142 : Cond.instanceMethod yX0_init ∈ wsL_law := in_wsL_law_r6 _ (List.mem_of_getElem? (i := 22) rfl)
theorem m_143 : Cond.code yX0_init cX0_init 1 none ∈ wsL_law := in_wsL_law_r6 _ (List.mem_of_getElem? (i := 23) rfl)
theorem m_144 : Cond.methodLink RX0 1 objectInit ∈ wsL_law := in_wsL_law_r7 _ (List.mem_of_getElem? (i := 0) rfl)
theorem m_152 : Cond.methodLink RX5 3 objectInit ∈ wsL_law := in_wsL_law_r7 _ (List.mem_of_getElem? (i := 8) rfl)
theorem m_153 : Cond.classLink RX5 9 RX8 ∈ wsL_law := in_wsL_law_r7 _ (List.mem_of_getElem? (i := 9) rfl)
theorem m_154 : Cond.instantiable RX8 3 ∈ wsL_law := in_wsL_law_r7 _ (List.mem_of_getElem? (i := 10) rfl)
theorem m_161 : Cond.methodLink RX5 11 yX8_init ∈ wsL_law := in_wsL_law_r7 _ (List.mem_of_getElem? (i := 17) rfl)
theorem m_162 : Cond.instanceMethod yX8_init ∈ wsL_law := in_wsL_law_r7 _ (List.mem_of_getElem? (i := 18) rfl)
theorem m_163 : Cond.code yX8_init cX8_init 1 none ∈ wsL_law := in_wsL_law_r7 _ (List.mem_of_getElem? (i := 19) rfl)
theorem m_164 : Cond.methodLink RX8 3 objectInit ∈ wsL_law := in_wsL_law_r7 _ (List.mem_of_getElem? (i := 20) rfl)
theorem m_165 : Cond.classLink RX8 9 RX1 ∈ wsL_law := in_wsL_law_r7 _ (List.mem_of_getElem? (i := 21) rfl)
theorem m_169 : Cond.methodLink RX8 11 yX1_init ∈ wsL_law := in_wsL_law_r8 _ (List.mem_of_getElem? (i := 1) rfl)
theorem m_173 : Cond.methodLink RX4 3 objectInit ∈ wsL_law := in_wsL_law_r8 _ (List.mem_of_getElem? (i := 5) rfl)
theorem m_178 : Cond.classLink RX4 24 RX1 ∈ wsL_law := in_wsL_law_r8 _ (List.mem_of_getElem? (i := 10) rfl)
theorem m_182 : Cond.methodLink RX4 26 yX1_init ∈ wsL_law := in_wsL_law_r8 _ (List.mem_of_getElem? (i := 14) rfl)
theorem m_186 : Cond.methodLink RX2 3 objectInit ∈ wsL_law := in_wsL_law_r8 _ (List.mem_of_getElem? (i := 18) rfl)
theorem m_191 : Cond.methodLink RX3 3 objectInit ∈ wsL_law := in_wsL_law_r8 _ (List.mem_of_getElem? (i := 23) rfl)
theorem m_192 : Cond.classLink RX3 9 RX1 ∈ wsL_law := in_wsL_law_r9 _ (List.mem_of_getElem? (i := 0) rfl)
theorem m_196 : Cond.methodLink RX3 11 yX1_init ∈ wsL_law := in_wsL_law_r9 _ (List.mem_of_getElem? (i := 4) rfl)
theorem m_200 : Cond.methodLink RX7 3 objectInit ∈ wsL_law := in_wsL_law_r9 _ (List.mem_of_getElem? (i := 8) rfl)
theorem m_209 : Cond.classLink RX7 36 RX1 ∈ wsL_law := in_wsL_law_r9 _ (List.mem_of_getElem? (i := 17) rfl)
theorem m_211 : Cond.methodLink RX7 38 yX1_init ∈ wsL_law := in_wsL_law_r9 _ (List.mem_of_getElem? (i := 19) rfl)
theorem dX1_init_0 : decode cX1_init 0 = .ok (.aload_n 0, 1) := by decide +kernel
theorem dX1_init_1 : decode cX1_init 1 = .ok (.invokespecial 3, 3) := by decide +kernel
theorem dX1_init_4 : decode cX1_init 4 = .ok (.aload_n 0, 1) := by decide +kernel
theorem dX1_init_5 : decode cX1_init 5 = .ok (.iload_n 1, 1) := by decide +kernel
theorem dX1_init_6 : decode cX1_init 6 = .ok (.iconst 0, 1) := by decide +kernel
theorem dX1_init_7 : decode cX1_init 7 = .ok (.invokestatic 9, 3) := by decide +kernel
theorem dX1_init_10 : decode cX1_init 10 = .ok (.newarray .int, 2) := by decide +kernel
theorem dX1_init_12 : decode cX1_init 12 = .ok (.putfield 15, 3) := by decide +kernel
theorem dX1_init_15 : decode cX1_init 15 = .ok (.aload_n 0, 1) := by decide +kernel
theorem dX1_init_16 : decode cX1_init 16 = .ok (.iconst 0, 1) := by decide +kernel
theorem dX1_init_17 : decode cX1_init 17 = .ok (.putfield 21, 3) := by decide +kernel
theorem dX1_init_20 : decode cX1_init 20 = .ok (.return_, 1) := by decide +kernel
theorem dX8_init_0 : decode cX8_init 0 = .ok (.aload_n 0, 1) := by decide +kernel
theorem dX8_init_1 : decode cX8_init 1 = .ok (.invokespecial 3, 3) := by decide +kernel
theorem dX8_init_4 : decode cX8_init 4 = .ok (.aload_n 0, 1) := by decide +kernel
theorem dX8_init_5 : decode cX8_init 5 = .ok (.new 9, 3) := by decide +kernel
theorem dX8_init_8 : decode cX8_init 8 = .ok (.dup, 1) := by decide +kernel
theorem dX8_init_9 : decode cX8_init 9 = .ok (.bipush 12, 2) := by decide +kernel
theorem dX8_init_11 : decode cX8_init 11 = .ok (.invokespecial 11, 3) := by decide +kernel
theorem dX8_init_14 : decode cX8_init 14 = .ok (.putfield 14, 3) := by decide +kernel
theorem dX8_init_17 : decode cX8_init 17 = .ok (.aload_n 0, 1) := by decide +kernel
theorem dX8_init_18 : decode cX8_init 18 = .ok (.iconst 0, 1) := by decide +kernel
theorem dX8_init_19 : decode cX8_init 19 = .ok (.putfield 20, 3) := by decide +kernel
theorem dX8_init_22 : decode cX8_init 22 = .ok (.aload_n 0, 1) := by decide +kernel
theorem dX8_init_23 : decode cX8_init 23 = .ok (.iconst 0, 1) := by decide +kernel
theorem dX8_init_24 : decode cX8_init 24 = .ok (.putfield 24, 3) := by decide +kernel
theorem dX8_init_27 : decode cX8_init 27 = .ok (.return_, 1) := by decide +kernel
theorem dX0_init_0 : decode cX0_init 0 = .ok (.aload_n 0, 1) := by decide +kernel
theorem dX0_init_1 : decode cX0_init 1 = .ok (.invokespecial 1, 3) := by decide +kernel
theorem dX0_init_4 : decode cX0_init 4 = .ok (.aload_n 0, 1) := by decide +kernel
theorem dX0_init_5 : decode cX0_init 5 = .ok (.sipush 512, 3) := by decide +kernel
theorem dX0_init_8 : decode cX0_init 8 = .ok (.newarray .int, 2) := by decide +kernel
theorem dX0_init_10 : decode cX0_init 10 = .ok (.putfield 9, 3) := by decide +kernel
theorem dX0_init_13 : decode cX0_init 13 = .ok (.aload_n 0, 1) := by decide +kernel
theorem dX0_init_14 : decode cX0_init 14 = .ok (.sipush 512, 3) := by decide +kernel
theorem dX0_init_17 : decode cX0_init 17 = .ok (.newarray .int, 2) := by decide +kernel
theorem dX0_init_19 : decode cX0_init 19 = .ok (.putfield 13, 3) := by decide +kernel
theorem dX0_init_22 : decode cX0_init 22 = .ok (.aload_n 0, 1) := by decide +kernel
theorem dX0_init_23 : decode cX0_init 23 = .ok (.bipush 64, 2) := by decide +kernel
theorem dX0_init_25 : decode cX0_init 25 = .ok (.newarray .int, 2) := by decide +kernel
theorem dX0_init_27 : decode cX0_init 27 = .ok (.putfield 16, 3) := by decide +kernel
theorem dX0_init_30 : decode cX0_init 30 = .ok (.aload_n 0, 1) := by decide +kernel
theorem dX0_init_31 : decode cX0_init 31 = .ok (.bipush 6, 2) := by decide +kernel
theorem dX0_init_33 : decode cX0_init 33 = .ok (.newarray .int, 2) := by decide +kernel
theorem dX0_init_35 : decode cX0_init 35 = .ok (.putfield 21, 3) := by decide +kernel
theorem dX0_init_38 : decode cX0_init 38 = .ok (.return_, 1) := by decide +kernel
theorem dX2_init_0 : decode cX2_init 0 = .ok (.aload_n 0, 1) := by decide +kernel
theorem dX2_init_1 : decode cX2_init 1 = .ok (.invokespecial 3, 3) := by decide +kernel
theorem dX2_init_4 : decode cX2_init 4 = .ok (.aload_n 0, 1) := by decide +kernel
theorem dX2_init_5 : decode cX2_init 5 = .ok (.sipush 4096, 3) := by decide +kernel
theorem dX2_init_8 : decode cX2_init 8 = .ok (.newarray .int, 2) := by decide +kernel
theorem dX2_init_10 : decode cX2_init 10 = .ok (.putfield 11, 3) := by decide +kernel
theorem dX2_init_13 : decode cX2_init 13 = .ok (.return_, 1) := by decide +kernel
theorem dX3_init_0 : decode cX3_init 0 = .ok (.aload_n 0, 1) := by decide +kernel
theorem dX3_init_1 : decode cX3_init 1 = .ok (.invokespecial 3, 3) := by decide +kernel
theorem dX3_init_4 : decode cX3_init 4 = .ok (.aload_n 0, 1) := by decide +kernel
theorem dX3_init_5 : decode cX3_init 5 = .ok (.new 9, 3) := by decide +kernel
theorem dX3_init_8 : decode cX3_init 8 = .ok (.dup, 1) := by decide +kernel
theorem dX3_init_9 : decode cX3_init 9 = .ok (.bipush 12, 2) := by decide +kernel
theorem dX3_init_11 : decode cX3_init 11 = .ok (.invokespecial 11, 3) := by decide +kernel
theorem dX3_init_14 : decode cX3_init 14 = .ok (.putfield 14, 3) := by decide +kernel
theorem dX3_init_17 : decode cX3_init 17 = .ok (.aload_n 0, 1) := by decide +kernel
theorem dX3_init_18 : decode cX3_init 18 = .ok (.new 9, 3) := by decide +kernel
theorem dX3_init_21 : decode cX3_init 21 = .ok (.dup, 1) := by decide +kernel
theorem dX3_init_22 : decode cX3_init 22 = .ok (.bipush 12, 2) := by decide +kernel
theorem dX3_init_24 : decode cX3_init 24 = .ok (.invokespecial 11, 3) := by decide +kernel
theorem dX3_init_27 : decode cX3_init 27 = .ok (.putfield 20, 3) := by decide +kernel
theorem dX3_init_30 : decode cX3_init 30 = .ok (.aload_n 0, 1) := by decide +kernel
theorem dX3_init_31 : decode cX3_init 31 = .ok (.new 9, 3) := by decide +kernel
theorem dX3_init_34 : decode cX3_init 34 = .ok (.dup, 1) := by decide +kernel
theorem dX3_init_35 : decode cX3_init 35 = .ok (.bipush 12, 2) := by decide +kernel
theorem dX3_init_37 : decode cX3_init 37 = .ok (.invokespecial 11, 3) := by decide +kernel
theorem dX3_init_40 : decode cX3_init 40 = .ok (.putfield 23, 3) := by decide +kernel
theorem dX3_init_43 : decode cX3_init 43 = .ok (.return_, 1) := by decide +kernel
theorem dX4_init_0 : decode cX4_init 0 = .ok (.aload_n 0, 1) := by decide +kernel
theorem dX4_init_1 : decode cX4_init 1 = .ok (.invokespecial 3, 3) := by decide +kernel
theorem dX4_init_4 : decode cX4_init 4 = .ok (.aload_n 0, 1) := by decide +kernel
theorem dX4_init_5 : decode cX4_init 5 = .ok (.sipush 169, 3) := by decide +kernel
theorem dX4_init_8 : decode cX4_init 8 = .ok (.newarray .int, 2) := by decide +kernel
theorem dX4_init_10 : decode cX4_init 10 = .ok (.putfield 11, 3) := by decide +kernel
theorem dX4_init_13 : decode cX4_init 13 = .ok (.aload_n 0, 1) := by decide +kernel
theorem dX4_init_14 : decode cX4_init 14 = .ok (.sipush 729, 3) := by decide +kernel
theorem dX4_init_17 : decode cX4_init 17 = .ok (.newarray .int, 2) := by decide +kernel
theorem dX4_init_19 : decode cX4_init 19 = .ok (.putfield 15, 3) := by decide +kernel
theorem dX4_init_22 : decode cX4_init 22 = .ok (.aload_n 0, 1) := by decide +kernel
theorem dX4_init_23 : decode cX4_init 23 = .ok (.sipush 729, 3) := by decide +kernel
theorem dX4_init_26 : decode cX4_init 26 = .ok (.newarray .int, 2) := by decide +kernel
theorem dX4_init_28 : decode cX4_init 28 = .ok (.putfield 18, 3) := by decide +kernel
theorem dX4_init_31 : decode cX4_init 31 = .ok (.aload_n 0, 1) := by decide +kernel
theorem dX4_init_32 : decode cX4_init 32 = .ok (.iconst 3, 1) := by decide +kernel
theorem dX4_init_33 : decode cX4_init 33 = .ok (.newarray .int, 2) := by decide +kernel
theorem dX4_init_35 : decode cX4_init 35 = .ok (.putfield 21, 3) := by decide +kernel
theorem dX4_init_38 : decode cX4_init 38 = .ok (.aload_n 0, 1) := by decide +kernel
theorem dX4_init_39 : decode cX4_init 39 = .ok (.new 24, 3) := by decide +kernel
theorem dX4_init_42 : decode cX4_init 42 = .ok (.dup, 1) := by decide +kernel
theorem dX4_init_43 : decode cX4_init 43 = .ok (.iconst 0, 1) := by decide +kernel
theorem dX4_init_44 : decode cX4_init 44 = .ok (.invokespecial 26, 3) := by decide +kernel
theorem dX4_init_47 : decode cX4_init 47 = .ok (.putfield 29, 3) := by decide +kernel
theorem dX4_init_50 : decode cX4_init 50 = .ok (.aload_n 0, 1) := by decide +kernel
theorem dX4_init_51 : decode cX4_init 51 = .ok (.aload_n 0, 1) := by decide +kernel
theorem dX4_init_52 : decode cX4_init 52 = .ok (.getfield 29, 3) := by decide +kernel
theorem dX4_init_55 : decode cX4_init 55 = .ok (.putfield 33, 3) := by decide +kernel
theorem dX4_init_58 : decode cX4_init 58 = .ok (.aload_n 0, 1) := by decide +kernel
theorem dX4_init_59 : decode cX4_init 59 = .ok (.aload_n 0, 1) := by decide +kernel
theorem dX4_init_60 : decode cX4_init 60 = .ok (.getfield 29, 3) := by decide +kernel
theorem dX4_init_63 : decode cX4_init 63 = .ok (.putfield 36, 3) := by decide +kernel
theorem dX4_init_66 : decode cX4_init 66 = .ok (.return_, 1) := by decide +kernel
theorem dX7_init_0 : decode cX7_init 0 = .ok (.aload_n 0, 1) := by decide +kernel
theorem dX7_init_1 : decode cX7_init 1 = .ok (.invokespecial 3, 3) := by decide +kernel
theorem dX7_init_4 : decode cX7_init 4 = .ok (.aload_n 0, 1) := by decide +kernel
theorem dX7_init_5 : decode cX7_init 5 = .ok (.iconst 5, 1) := by decide +kernel
theorem dX7_init_6 : decode cX7_init 6 = .ok (.newarray .int, 2) := by decide +kernel
theorem dX7_init_8 : decode cX7_init 8 = .ok (.putfield 9, 3) := by decide +kernel
theorem dX7_init_11 : decode cX7_init 11 = .ok (.aload_n 0, 1) := by decide +kernel
theorem dX7_init_12 : decode cX7_init 12 = .ok (.bipush 30, 2) := by decide +kernel
theorem dX7_init_14 : decode cX7_init 14 = .ok (.newarray .int, 2) := by decide +kernel
theorem dX7_init_16 : decode cX7_init 16 = .ok (.putfield 15, 3) := by decide +kernel
theorem dX7_init_19 : decode cX7_init 19 = .ok (.aload_n 0, 1) := by decide +kernel
theorem dX7_init_20 : decode cX7_init 20 = .ok (.bipush 30, 2) := by decide +kernel
theorem dX7_init_22 : decode cX7_init 22 = .ok (.newarray .int, 2) := by decide +kernel
theorem dX7_init_24 : decode cX7_init 24 = .ok (.putfield 18, 3) := by decide +kernel
theorem dX7_init_27 : decode cX7_init 27 = .ok (.aload_n 0, 1) := by decide +kernel
theorem dX7_init_28 : decode cX7_init 28 = .ok (.bipush 30, 2) := by decide +kernel
theorem dX7_init_30 : decode cX7_init 30 = .ok (.newarray .int, 2) := by decide +kernel
theorem dX7_init_32 : decode cX7_init 32 = .ok (.putfield 21, 3) := by decide +kernel
theorem dX7_init_35 : decode cX7_init 35 = .ok (.aload_n 0, 1) := by decide +kernel
theorem dX7_init_36 : decode cX7_init 36 = .ok (.bipush 30, 2) := by decide +kernel
theorem dX7_init_38 : decode cX7_init 38 = .ok (.newarray .int, 2) := by decide +kernel
theorem dX7_init_40 : decode cX7_init 40 = .ok (.putfield 24, 3) := by decide +kernel
theorem dX7_init_43 : decode cX7_init 43 = .ok (.aload_n 0, 1) := by decide +kernel
theorem dX7_init_44 : decode cX7_init 44 = .ok (.iconst 5, 1) := by decide +kernel
theorem dX7_init_45 : decode cX7_init 45 = .ok (.newarray .int, 2) := by decide +kernel
theorem dX7_init_47 : decode cX7_init 47 = .ok (.putfield 27, 3) := by decide +kernel
theorem dX7_init_50 : decode cX7_init 50 = .ok (.aload_n 0, 1) := by decide +kernel
theorem dX7_init_51 : decode cX7_init 51 = .ok (.iconst 5, 1) := by decide +kernel
theorem dX7_init_52 : decode cX7_init 52 = .ok (.newarray .int, 2) := by decide +kernel
theorem dX7_init_54 : decode cX7_init 54 = .ok (.putfield 30, 3) := by decide +kernel
theorem dX7_init_57 : decode cX7_init 57 = .ok (.aload_n 0, 1) := by decide +kernel
theorem dX7_init_58 : decode cX7_init 58 = .ok (.bipush 25, 2) := by decide +kernel
theorem dX7_init_60 : decode cX7_init 60 = .ok (.newarray .int, 2) := by decide +kernel
theorem dX7_init_62 : decode cX7_init 62 = .ok (.putfield 33, 3) := by decide +kernel
theorem dX7_init_65 : decode cX7_init 65 = .ok (.aload_n 0, 1) := by decide +kernel
theorem dX7_init_66 : decode cX7_init 66 = .ok (.new 36, 3) := by decide +kernel
theorem dX7_init_69 : decode cX7_init 69 = .ok (.dup, 1) := by decide +kernel
theorem dX7_init_70 : decode cX7_init 70 = .ok (.iconst 5, 1) := by decide +kernel
theorem dX7_init_71 : decode cX7_init 71 = .ok (.invokespecial 38, 3) := by decide +kernel
theorem dX7_init_74 : decode cX7_init 74 = .ok (.putfield 41, 3) := by decide +kernel
theorem dX7_init_77 : decode cX7_init 77 = .ok (.return_, 1) := by decide +kernel
theorem dX10_init_0 : decode cX10_init 0 = .ok (.aload_n 0, 1) := by decide +kernel
theorem dX10_init_1 : decode cX10_init 1 = .ok (.invokespecial 3, 3) := by decide +kernel
theorem dX10_init_4 : decode cX10_init 4 = .ok (.aload_n 0, 1) := by decide +kernel
theorem dX10_init_5 : decode cX10_init 5 = .ok (.bipush 9, 2) := by decide +kernel
theorem dX10_init_7 : decode cX10_init 7 = .ok (.newarray .long, 2) := by decide +kernel
theorem dX10_init_9 : decode cX10_init 9 = .ok (.putfield 9, 3) := by decide +kernel
theorem dX10_init_12 : decode cX10_init 12 = .ok (.aload_n 0, 1) := by decide +kernel
theorem dX10_init_13 : decode cX10_init 13 = .ok (.bipush 9, 2) := by decide +kernel
theorem dX10_init_15 : decode cX10_init 15 = .ok (.newarray .int, 2) := by decide +kernel
theorem dX10_init_17 : decode cX10_init 17 = .ok (.putfield 15, 3) := by decide +kernel
theorem dX10_init_20 : decode cX10_init 20 = .ok (.aload_n 0, 1) := by decide +kernel
theorem dX10_init_21 : decode cX10_init 21 = .ok (.bipush 81, 2) := by decide +kernel
theorem dX10_init_23 : decode cX10_init 23 = .ok (.newarray .int, 2) := by decide +kernel
theorem dX10_init_25 : decode cX10_init 25 = .ok (.putfield 19, 3) := by decide +kernel
theorem dX10_init_28 : decode cX10_init 28 = .ok (.aload_n 0, 1) := by decide +kernel
theorem dX10_init_29 : decode cX10_init 29 = .ok (.bipush 81, 2) := by decide +kernel
theorem dX10_init_31 : decode cX10_init 31 = .ok (.newarray .boolean, 2) := by decide +kernel
theorem dX10_init_33 : decode cX10_init 33 = .ok (.putfield 22, 3) := by decide +kernel
theorem dX10_init_36 : decode cX10_init 36 = .ok (.aload_n 0, 1) := by decide +kernel
theorem dX10_init_37 : decode cX10_init 37 = .ok (.new 26, 3) := by decide +kernel
theorem dX10_init_40 : decode cX10_init 40 = .ok (.dup, 1) := by decide +kernel
theorem dX10_init_41 : decode cX10_init 41 = .ok (.bipush 12, 2) := by decide +kernel
theorem dX10_init_43 : decode cX10_init 43 = .ok (.invokespecial 28, 3) := by decide +kernel
theorem dX10_init_46 : decode cX10_init 46 = .ok (.putfield 31, 3) := by decide +kernel
theorem dX10_init_49 : decode cX10_init 49 = .ok (.aload_n 0, 1) := by decide +kernel
theorem dX10_init_50 : decode cX10_init 50 = .ok (.iconst 5, 1) := by decide +kernel
theorem dX10_init_51 : decode cX10_init 51 = .ok (.anewarray 26, 3) := by decide +kernel
theorem dX10_init_54 : decode cX10_init 54 = .ok (.putfield 35, 3) := by decide +kernel
theorem dX10_init_57 : decode cX10_init 57 = .ok (.iconst 0, 1) := by decide +kernel
theorem dX10_init_58 : decode cX10_init 58 = .ok (.istore_n 1, 1) := by decide +kernel
theorem dX10_init_59 : decode cX10_init 59 = .ok (.iload_n 1, 1) := by decide +kernel
theorem dX10_init_60 : decode cX10_init 60 = .ok (.aload_n 0, 1) := by decide +kernel
theorem dX10_init_61 : decode cX10_init 61 = .ok (.getfield 35, 3) := by decide +kernel
theorem dX10_init_64 : decode cX10_init 64 = .ok (.arraylength, 1) := by decide +kernel
theorem dX10_init_65 : decode cX10_init 65 = .ok (.if_icmp .ge 24, 3) := by decide +kernel
theorem dX10_init_68 : decode cX10_init 68 = .ok (.aload_n 0, 1) := by decide +kernel
theorem dX10_init_69 : decode cX10_init 69 = .ok (.getfield 35, 3) := by decide +kernel
theorem dX10_init_72 : decode cX10_init 72 = .ok (.iload_n 1, 1) := by decide +kernel
theorem dX10_init_73 : decode cX10_init 73 = .ok (.new 26, 3) := by decide +kernel
theorem dX10_init_76 : decode cX10_init 76 = .ok (.dup, 1) := by decide +kernel
theorem dX10_init_77 : decode cX10_init 77 = .ok (.bipush 8, 2) := by decide +kernel
theorem dX10_init_79 : decode cX10_init 79 = .ok (.invokespecial 28, 3) := by decide +kernel
theorem dX10_init_82 : decode cX10_init 82 = .ok (.aastore, 1) := by decide +kernel
theorem dX10_init_83 : decode cX10_init 83 = .ok (.iinc 1 1, 3) := by decide +kernel
theorem dX10_init_86 : decode cX10_init 86 = .ok (.goto (-27), 3) := by decide +kernel
theorem dX10_init_89 : decode cX10_init 89 = .ok (.aload_n 0, 1) := by decide +kernel
theorem dX10_init_90 : decode cX10_init 90 = .ok (.new 39, 3) := by decide +kernel
theorem dX10_init_93 : decode cX10_init 93 = .ok (.dup, 1) := by decide +kernel
theorem dX10_init_94 : decode cX10_init 94 = .ok (.invokespecial 41, 3) := by decide +kernel
theorem dX10_init_97 : decode cX10_init 97 = .ok (.putfield 42, 3) := by decide +kernel
theorem dX10_init_100 : decode cX10_init 100 = .ok (.return_, 1) := by decide +kernel
theorem dX5_init_0 : decode cX5_init 0 = .ok (.aload_n 0, 1) := by decide +kernel
theorem dX5_init_1 : decode cX5_init 1 = .ok (.invokespecial 3, 3) := by decide +kernel
theorem dX5_init_4 : decode cX5_init 4 = .ok (.aload_n 0, 1) := by decide +kernel
theorem dX5_init_5 : decode cX5_init 5 = .ok (.new 9, 3) := by decide +kernel
theorem dX5_init_8 : decode cX5_init 8 = .ok (.dup, 1) := by decide +kernel
theorem dX5_init_9 : decode cX5_init 9 = .ok (.invokespecial 11, 3) := by decide +kernel
theorem dX5_init_12 : decode cX5_init 12 = .ok (.putfield 12, 3) := by decide +kernel
theorem dX5_init_15 : decode cX5_init 15 = .ok (.aload_n 0, 1) := by decide +kernel
theorem dX5_init_16 : decode cX5_init 16 = .ok (.new 9, 3) := by decide +kernel
theorem dX5_init_19 : decode cX5_init 19 = .ok (.dup, 1) := by decide +kernel
theorem dX5_init_20 : decode cX5_init 20 = .ok (.invokespecial 11, 3) := by decide +kernel
theorem dX5_init_23 : decode cX5_init 23 = .ok (.putfield 18, 3) := by decide +kernel
theorem dX5_init_26 : decode cX5_init 26 = .ok (.aload_n 0, 1) := by decide +kernel
theorem dX5_init_27 : decode cX5_init 27 = .ok (.bipush 41, 2) := by decide +kernel
theorem dX5_init_29 : decode cX5_init 29 = .ok (.anewarray 9, 3) := by decide +kernel
theorem dX5_init_32 : decode cX5_init 32 = .ok (.putfield 21, 3) := by decide +kernel
theorem dX5_init_35 : decode cX5_init 35 = .ok (.iconst 0, 1) := by decide +kernel
theorem dX5_init_36 : decode cX5_init 36 = .ok (.istore_n 1, 1) := by decide +kernel
theorem dX5_init_37 : decode cX5_init 37 = .ok (.iload_n 1, 1) := by decide +kernel
theorem dX5_init_38 : decode cX5_init 38 = .ok (.aload_n 0, 1) := by decide +kernel
theorem dX5_init_39 : decode cX5_init 39 = .ok (.getfield 21, 3) := by decide +kernel
theorem dX5_init_42 : decode cX5_init 42 = .ok (.arraylength, 1) := by decide +kernel
theorem dX5_init_43 : decode cX5_init 43 = .ok (.if_icmp .ge 22, 3) := by decide +kernel
theorem dX5_init_46 : decode cX5_init 46 = .ok (.aload_n 0, 1) := by decide +kernel
theorem dX5_init_47 : decode cX5_init 47 = .ok (.getfield 21, 3) := by decide +kernel
theorem dX5_init_50 : decode cX5_init 50 = .ok (.iload_n 1, 1) := by decide +kernel
theorem dX5_init_51 : decode cX5_init 51 = .ok (.new 9, 3) := by decide +kernel
theorem dX5_init_54 : decode cX5_init 54 = .ok (.dup, 1) := by decide +kernel
theorem dX5_init_55 : decode cX5_init 55 = .ok (.invokespecial 11, 3) := by decide +kernel
theorem dX5_init_58 : decode cX5_init 58 = .ok (.aastore, 1) := by decide +kernel
theorem dX5_init_59 : decode cX5_init 59 = .ok (.iinc 1 1, 3) := by decide +kernel
theorem dX5_init_62 : decode cX5_init 62 = .ok (.goto (-25), 3) := by decide +kernel
theorem dX5_init_65 : decode cX5_init 65 = .ok (.aload_n 0, 1) := by decide +kernel
theorem dX5_init_66 : decode cX5_init 66 = .ok (.iconst 3, 1) := by decide +kernel
theorem dX5_init_67 : decode cX5_init 67 = .ok (.anewarray 9, 3) := by decide +kernel
theorem dX5_init_70 : decode cX5_init 70 = .ok (.putfield 25, 3) := by decide +kernel
theorem dX5_init_73 : decode cX5_init 73 = .ok (.iconst 0, 1) := by decide +kernel
theorem dX5_init_74 : decode cX5_init 74 = .ok (.istore_n 1, 1) := by decide +kernel
theorem dX5_init_75 : decode cX5_init 75 = .ok (.iload_n 1, 1) := by decide +kernel
theorem dX5_init_76 : decode cX5_init 76 = .ok (.aload_n 0, 1) := by decide +kernel
theorem dX5_init_77 : decode cX5_init 77 = .ok (.getfield 25, 3) := by decide +kernel
theorem dX5_init_80 : decode cX5_init 80 = .ok (.arraylength, 1) := by decide +kernel
theorem dX5_init_81 : decode cX5_init 81 = .ok (.if_icmp .ge 22, 3) := by decide +kernel
theorem dX5_init_84 : decode cX5_init 84 = .ok (.aload_n 0, 1) := by decide +kernel
theorem dX5_init_85 : decode cX5_init 85 = .ok (.getfield 25, 3) := by decide +kernel
theorem dX5_init_88 : decode cX5_init 88 = .ok (.iload_n 1, 1) := by decide +kernel
theorem dX5_init_89 : decode cX5_init 89 = .ok (.new 9, 3) := by decide +kernel
theorem dX5_init_92 : decode cX5_init 92 = .ok (.dup, 1) := by decide +kernel
theorem dX5_init_93 : decode cX5_init 93 = .ok (.invokespecial 11, 3) := by decide +kernel
theorem dX5_init_96 : decode cX5_init 96 = .ok (.aastore, 1) := by decide +kernel
theorem dX5_init_97 : decode cX5_init 97 = .ok (.iinc 1 1, 3) := by decide +kernel
theorem dX5_init_100 : decode cX5_init 100 = .ok (.goto (-25), 3) := by decide +kernel
theorem dX5_init_103 : decode cX5_init 103 = .ok (.aload_n 0, 1) := by decide +kernel
theorem dX5_init_104 : decode cX5_init 104 = .ok (.iconst 3, 1) := by decide +kernel
theorem dX5_init_105 : decode cX5_init 105 = .ok (.newarray .boolean, 2) := by decide +kernel
theorem dX5_init_107 : decode cX5_init 107 = .ok (.putfield 28, 3) := by decide +kernel
theorem dX5_init_110 : decode cX5_init 110 = .ok (.return_, 1) := by decide +kernel
theorem dfX1 : ∀ j, j < 2 → defaultValue (tyX1 j) = vp_V [.null, .int 0] j
  | 0, _ => rfl
  | 1, _ => rfl
  | n + 2, h => absurd h (by omega)
theorem dfX0 : ∀ j, j < 8 → defaultValue (tyX0 j) = vp_V [.null, .null, .null, .null, .int 0, .int 0, .int 0, .int 0] j
  | 0, _ => rfl
  | 1, _ => rfl
  | 2, _ => rfl
  | 3, _ => rfl
  | 4, _ => rfl
  | 5, _ => rfl
  | 6, _ => rfl
  | 7, _ => rfl
  | n + 8, h => absurd h (by omega)
theorem dfX8 : ∀ j, j < 3 → defaultValue (tyX8 j) = vp_V [.null, .int 0, .int 0] j
  | 0, _ => rfl
  | 1, _ => rfl
  | 2, _ => rfl
  | n + 3, h => absurd h (by omega)
def TXZ : List fx_G := [.inl (11, [.inr (.inr 2), .inr (.inr 3), .inr (.inr 4), .inr (.inr 5), .inr (.inr 6), .inr (.inr 7), .inr (.inr 13), .inr (.inr 66), .inr (.inr 9)]), .inl (6, [.inr (.inr 8), .inr (.inr 9), .inl (-2147483648, 2147483647), .inl (-2147483648, 2147483647)]), .inl (5, [.inr (.inr 11), .inr (.inr 11), .inr (.inr 29), .inr (.inr 30), .inr (.inr 31), .inl (0, 40), .inl (0, 40)]), .inl (4, [.inr (.inr 32), .inr (.inr 33), .inr (.inr 34), .inr (.inr 35), .inr (.inr 10003), .inr (.inr 10003), .inr (.inr 10003)]), .inl (2, [.inr (.inr 36)]), .inl (3, [.inr (.inr 12), .inr (.inr 12), .inr (.inr 12)]), .inl (7, [.inr (.inr 37), .inr (.inr 38), .inr (.inr 39), .inr (.inr 40), .inr (.inr 41), .inr (.inr 42), .inr (.inr 43), .inr (.inr 44), .inr (.inr 14), .inl (0, 5), .inl (0, 30), .inl (0, 0), .inl (-2147483648, 2147483647)]), .inl (9, [.inr (.inr 27), .inr (.inr 28), .inl (0, 1600), .inl (-2147483648, 2147483647), .inl (-2147483648, 2147483647), .inl (-2147483648, 2147483647), .inl (-2147483648, 2147483647), .inr (.inl (-9223372036854775808, 9223372036854775807))]), .inl (10, [.inr (.inr 22), .inr (.inr 23), .inr (.inr 24), .inr (.inr 25), .inr (.inr 12), .inr (.inr 26), .inr (.inr 10), .inl (0, 9), .inl (-2147483648, 2147483647), .inl (0, 5), .inl (-2147483648, 2147483647), .inl (0, 1)]), .inl (0, [.inr (.inr 18), .inr (.inr 19), .inr (.inr 20), .inr (.inr 21), .inl (0, 512), .inl (-2147483648, 2147483647), .inl (-2147483648, 2147483647), .inl (0, 1)]), .inl (8, [.inr (.inr 12), .inl (-2147483648, 2147483647), .inl (-2147483648, 2147483647)]), .inl (1, [.inr (.inr 15), .inl (0, 12)]), .inl (1, [.inr (.inr 16), .inl (0, 24)]), .inl (1, [.inr (.inr 17), .inl (0, 5)]), .inr (0, 12, [.inl (-2147483648, 2147483647)]), .inr (0, 24, [.inl (-2147483648, 2147483647)]), .inr (0, 5, [.inl (-2147483648, 2147483647)]), .inr (0, 512, [.inl (-2147483648, 2147483647)]), .inr (0, 512, [.inl (-2147483648, 2147483647)]), .inr (0, 64, [.inl (-2147483648, 2147483647)]), .inr (0, 6, [.inl (-2147483648, 2147483647)]), .inr (1, 9, [.inr (.inl (-9223372036854775808, 9223372036854775807))]), .inr (0, 9, [.inl (-2147483648, 2147483647)]), .inr (0, 81, [.inl (-2147483648, 2147483647)]), .inr (3, 81, [.inl (0, 1)]), .inr (4, 5, [.inr (.inr 65)]), .inr (2, 1600, [.inl (-128, 127)]), .inr (1, 15, [.inr (.inl (-9223372036854775808, 9223372036854775807))]), .inr (5, 41, [.inr (.inr 11)]), .inr (5, 3, [.inr (.inr 11)]), .inr (3, 3, [.inl (0, 1)]), .inr (0, 169, [.inl (-2147483648, 2147483647)]), .inr (0, 729, [.inl (-2147483648, 2147483647)]), .inr (0, 729, [.inl (-2147483648, 2147483647)]), .inr (0, 3, [.inl (-2147483648, 2147483647)]), .inr (0, 4096, [.inl (-2147483648, 2147483647)]), .inr (0, 5, [.inl (-2147483648, 2147483647)]), .inr (0, 30, [.inl (-2147483648, 2147483647)]), .inr (0, 30, [.inl (-2147483648, 2147483647)]), .inr (0, 30, [.inl (-2147483648, 2147483647)]), .inr (0, 30, [.inl (-2147483648, 2147483647)]), .inr (0, 5, [.inl (-2147483648, 2147483647)]), .inr (0, 5, [.inl (0, 4)]), .inr (0, 25, [.inl (-2147483648, 2147483647)]), .inr (0, 8, [.inl (-2147483648, 2147483647)]), .inr (0, 0, [.inl (-2147483648, 2147483647)]), .inr (0, 0, [.inl (-2147483648, 2147483647)]), .inr (0, 0, [.inl (-2147483648, 2147483647)]), .inr (0, 0, [.inl (-2147483648, 2147483647)]), .inr (0, 0, [.inl (-2147483648, 2147483647)]), .inr (0, 0, [.inl (-2147483648, 2147483647)]), .inr (0, 0, [.inl (-2147483648, 2147483647)]), .inr (0, 0, [.inl (-2147483648, 2147483647)]), .inr (0, 0, [.inl (-2147483648, 2147483647)]), .inr (0, 0, [.inl (-2147483648, 2147483647)]), .inr (0, 0, [.inl (-2147483648, 2147483647)]), .inr (0, 0, [.inl (-2147483648, 2147483647)]), .inr (0, 0, [.inl (-2147483648, 2147483647)]), .inr (0, 0, [.inl (-2147483648, 2147483647)]), .inr (0, 0, [.inl (-2147483648, 2147483647)]), .inr (0, 0, [.inl (-2147483648, 2147483647)]), .inr (0, 0, [.inl (-2147483648, 2147483647)]), .inr (0, 0, [.inl (-2147483648, 2147483647)]), .inr (0, 0, [.inl (-2147483648, 2147483647)]), .inl (1, [.inr (.inr 45), .inl (0, 8)]), .inl (1, [.inr (.inr 46), .inl (0, 0)])]
set_option maxRecDepth 100000 in
set_option maxHeartbeats 4000000 in
theorem kc_X1_12 {l : Launch} {E : (Nat → Prop) → State → Prop} {D : va_G} {cy : Nat → ClassId} (hE : fx_env E D classes (tys cy) nestW) (hX : ∀ A U, E A U → va_AO RX1 U ∧ va_AO RX8 U) : KC l yX1_init cX1_init 2 ({ frames := 1, cells := 1, slots := 12, locals := 16 }) 1 12 E TXZ cy D (fun _ => True) 1 [.null, .int 0] [zv 12] 11 := by
  refine k_of (gc := (fun _ => True)) trivial (by decide +kernel) rfl (fun h0 => Nat.le_of_ble_eq_true rfl) ?_
  intro h0 p e s m below meth c hlocks hr hin C hEs hA
  have hK := (hE.1 _ _ hEs).1
  refine gq_pick (lv' := [(0, .ref h0), (1, zv 12)]) [0, 1] rfl ?_
  refine gq_aln C 0 dX1_init_0 rfl rfl rfl ?_
  refine k_obj C m_134 m_10 m_11 dX1_init_1 (Nat.le_of_ble_eq_true rfl) (Nat.le_of_ble_eq_true rfl) rfl ?_
  refine gq_aln C 0 dX1_init_4 rfl rfl rfl ?_
  refine gq_iln C 1 dX1_init_5 rfl rfl rfl ?_
  refine gq_ic C dX1_init_6 rfl ?_
  refine k_max C ⟨by decide, by decide⟩ m_135 m_136 m_137 m_138 (Nat.le_of_ble_eq_true rfl) (Nat.le_of_ble_eq_true rfl) (Nat.le_of_ble_eq_true rfl) (Nat.le_of_ble_eq_true rfl) dX1_init_7 rfl ?_
  refine k_newa (gc' := (fun _ => True)) (N' := 12) (g := 14) (x := .inl (fun _ => 0)) C hK hA (atype := .int) m_119 rfl rfl (xa_zI 12) (by decide +kernel) (by decide +kernel) (by decide +kernel) rfl ⟨_, rfl⟩ (helz (by decide +kernel)) (fun _ _ => trivial) (Nat.le_of_ble_eq_true rfl) (Nat.le_of_ble_eq_true rfl) dX1_init_10 rfl (fun b1 => ?_)
  refine k_putF (C0 := RX1) (T0 := TX1) (N := 2) (ty := (tyX1 0)) (fr' := [(h0, .inr (1, [.ref b1, .int 0]))]) C hK inlX1 tyX1 tyX1_ok nmX1 0 rfl rfl 0 (by decide) m_139 (fun _ h9 => h9) rfl hin rfl (by decide +kernel) rfl rfl (Nat.le_of_ble_eq_true rfl) dX1_init_12 rfl rfl ?_
  refine gq_aln C 0 dX1_init_15 rfl rfl rfl ?_
  refine gq_ic C dX1_init_16 rfl ?_
  refine k_put (C0 := RX1) (T0 := TX1) (N := 2) (ty := (tyX1 1)) (fr' := [(h0, .inr (1, [.ref b1, zv 0]))]) C hK inlX1 tyX1 tyX1_ok nmX1 0 rfl rfl 1 (by decide) m_140 (fun _ h9 => h9) rfl (by decide +kernel) rfl rfl (Nat.le_of_ble_eq_true rfl) dX1_init_17 rfl rfl ?_
  refine gq_wd (cl' := 1) (sl' := 12) (Nat.le_of_ble_eq_true rfl) (Nat.le_of_ble_eq_true rfl) ?_
  exact k_ret (gf := [11]) C hlocks hr dX1_init_20 rfl rfl rfl rfl rfl rfl (fun _ _ => trivial) (fun gs ad hq => ⟨⟨_, rfl, rfl, oks_ok (show oks _ _ _ [.ref b1, zv 0] from ⟨(rt_ok (hq (b1, 14) (List.mem_append_right _ (List.mem_singleton.mpr rfl))) (by decide)), ⟨_, rfl, by decide +kernel, by decide +kernel⟩, trivial⟩)⟩, trivial⟩)
set_option maxRecDepth 100000 in
set_option maxHeartbeats 4000000 in
theorem kc_X1_24 {l : Launch} {E : (Nat → Prop) → State → Prop} {D : va_G} {cy : Nat → ClassId} (hE : fx_env E D classes (tys cy) nestW) (hX : ∀ A U, E A U → va_AO RX1 U ∧ va_AO RX8 U) : KC l yX1_init cX1_init 2 ({ frames := 1, cells := 1, slots := 24, locals := 16 }) 1 24 E TXZ cy D (fun _ => True) 1 [.null, .int 0] [zv 24] 12 := by
  refine k_of (gc := (fun _ => True)) trivial (by decide +kernel) rfl (fun h0 => Nat.le_of_ble_eq_true rfl) ?_
  intro h0 p e s m below meth c hlocks hr hin C hEs hA
  have hK := (hE.1 _ _ hEs).1
  refine gq_pick (lv' := [(0, .ref h0), (1, zv 24)]) [0, 1] rfl ?_
  refine gq_aln C 0 dX1_init_0 rfl rfl rfl ?_
  refine k_obj C m_134 m_10 m_11 dX1_init_1 (Nat.le_of_ble_eq_true rfl) (Nat.le_of_ble_eq_true rfl) rfl ?_
  refine gq_aln C 0 dX1_init_4 rfl rfl rfl ?_
  refine gq_iln C 1 dX1_init_5 rfl rfl rfl ?_
  refine gq_ic C dX1_init_6 rfl ?_
  refine k_max C ⟨by decide, by decide⟩ m_135 m_136 m_137 m_138 (Nat.le_of_ble_eq_true rfl) (Nat.le_of_ble_eq_true rfl) (Nat.le_of_ble_eq_true rfl) (Nat.le_of_ble_eq_true rfl) dX1_init_7 rfl ?_
  refine k_newa (gc' := (fun _ => True)) (N' := 24) (g := 15) (x := .inl (fun _ => 0)) C hK hA (atype := .int) m_119 rfl rfl (xa_zI 24) (by decide +kernel) (by decide +kernel) (by decide +kernel) rfl ⟨_, rfl⟩ (helz (by decide +kernel)) (fun _ _ => trivial) (Nat.le_of_ble_eq_true rfl) (Nat.le_of_ble_eq_true rfl) dX1_init_10 rfl (fun b1 => ?_)
  refine k_putF (C0 := RX1) (T0 := TX1) (N := 2) (ty := (tyX1 0)) (fr' := [(h0, .inr (1, [.ref b1, .int 0]))]) C hK inlX1 tyX1 tyX1_ok nmX1 0 rfl rfl 0 (by decide) m_139 (fun _ h9 => h9) rfl hin rfl (by decide +kernel) rfl rfl (Nat.le_of_ble_eq_true rfl) dX1_init_12 rfl rfl ?_
  refine gq_aln C 0 dX1_init_15 rfl rfl rfl ?_
  refine gq_ic C dX1_init_16 rfl ?_
  refine k_put (C0 := RX1) (T0 := TX1) (N := 2) (ty := (tyX1 1)) (fr' := [(h0, .inr (1, [.ref b1, zv 0]))]) C hK inlX1 tyX1 tyX1_ok nmX1 0 rfl rfl 1 (by decide) m_140 (fun _ h9 => h9) rfl (by decide +kernel) rfl rfl (Nat.le_of_ble_eq_true rfl) dX1_init_17 rfl rfl ?_
  refine gq_wd (cl' := 1) (sl' := 24) (Nat.le_of_ble_eq_true rfl) (Nat.le_of_ble_eq_true rfl) ?_
  exact k_ret (gf := [12]) C hlocks hr dX1_init_20 rfl rfl rfl rfl rfl rfl (fun _ _ => trivial) (fun gs ad hq => ⟨⟨_, rfl, rfl, oks_ok (show oks _ _ _ [.ref b1, zv 0] from ⟨(rt_ok (hq (b1, 15) (List.mem_append_right _ (List.mem_singleton.mpr rfl))) (by decide)), ⟨_, rfl, by decide +kernel, by decide +kernel⟩, trivial⟩)⟩, trivial⟩)
set_option maxRecDepth 100000 in
set_option maxHeartbeats 4000000 in
theorem kc_X1_5 {l : Launch} {E : (Nat → Prop) → State → Prop} {D : va_G} {cy : Nat → ClassId} (hE : fx_env E D classes (tys cy) nestW) (hX : ∀ A U, E A U → va_AO RX1 U ∧ va_AO RX8 U) : KC l yX1_init cX1_init 2 ({ frames := 1, cells := 1, slots := 5, locals := 16 }) 1 5 E TXZ cy D (fun _ => True) 1 [.null, .int 0] [zv 5] 13 := by
  refine k_of (gc := (fun _ => True)) trivial (by decide +kernel) rfl (fun h0 => Nat.le_of_ble_eq_true rfl) ?_
  intro h0 p e s m below meth c hlocks hr hin C hEs hA
  have hK := (hE.1 _ _ hEs).1
  refine gq_pick (lv' := [(0, .ref h0), (1, zv 5)]) [0, 1] rfl ?_
  refine gq_aln C 0 dX1_init_0 rfl rfl rfl ?_
  refine k_obj C m_134 m_10 m_11 dX1_init_1 (Nat.le_of_ble_eq_true rfl) (Nat.le_of_ble_eq_true rfl) rfl ?_
  refine gq_aln C 0 dX1_init_4 rfl rfl rfl ?_
  refine gq_iln C 1 dX1_init_5 rfl rfl rfl ?_
  refine gq_ic C dX1_init_6 rfl ?_
  refine k_max C ⟨by decide, by decide⟩ m_135 m_136 m_137 m_138 (Nat.le_of_ble_eq_true rfl) (Nat.le_of_ble_eq_true rfl) (Nat.le_of_ble_eq_true rfl) (Nat.le_of_ble_eq_true rfl) dX1_init_7 rfl ?_
  refine k_newa (gc' := (fun _ => True)) (N' := 5) (g := 16) (x := .inl (fun _ => 0)) C hK hA (atype := .int) m_119 rfl rfl (xa_zI 5) (by decide +kernel) (by decide +kernel) (by decide +kernel) rfl ⟨_, rfl⟩ (helz (by decide +kernel)) (fun _ _ => trivial) (Nat.le_of_ble_eq_true rfl) (Nat.le_of_ble_eq_true rfl) dX1_init_10 rfl (fun b1 => ?_)
  refine k_putF (C0 := RX1) (T0 := TX1) (N := 2) (ty := (tyX1 0)) (fr' := [(h0, .inr (1, [.ref b1, .int 0]))]) C hK inlX1 tyX1 tyX1_ok nmX1 0 rfl rfl 0 (by decide) m_139 (fun _ h9 => h9) rfl hin rfl (by decide +kernel) rfl rfl (Nat.le_of_ble_eq_true rfl) dX1_init_12 rfl rfl ?_
  refine gq_aln C 0 dX1_init_15 rfl rfl rfl ?_
  refine gq_ic C dX1_init_16 rfl ?_
  refine k_put (C0 := RX1) (T0 := TX1) (N := 2) (ty := (tyX1 1)) (fr' := [(h0, .inr (1, [.ref b1, zv 0]))]) C hK inlX1 tyX1 tyX1_ok nmX1 0 rfl rfl 1 (by decide) m_140 (fun _ h9 => h9) rfl (by decide +kernel) rfl rfl (Nat.le_of_ble_eq_true rfl) dX1_init_17 rfl rfl ?_
  refine gq_wd (cl' := 1) (sl' := 5) (Nat.le_of_ble_eq_true rfl) (Nat.le_of_ble_eq_true rfl) ?_
  exact k_ret (gf := [13]) C hlocks hr dX1_init_20 rfl rfl rfl rfl rfl rfl (fun _ _ => trivial) (fun gs ad hq => ⟨⟨_, rfl, rfl, oks_ok (show oks _ _ _ [.ref b1, zv 0] from ⟨(rt_ok (hq (b1, 16) (List.mem_append_right _ (List.mem_singleton.mpr rfl))) (by decide)), ⟨_, rfl, by decide +kernel, by decide +kernel⟩, trivial⟩)⟩, trivial⟩)
set_option maxRecDepth 100000 in
set_option maxHeartbeats 4000000 in
theorem kc_X1_8 {l : Launch} {E : (Nat → Prop) → State → Prop} {D : va_G} {cy : Nat → ClassId} (hE : fx_env E D classes (tys cy) nestW) (hX : ∀ A U, E A U → va_AO RX1 U ∧ va_AO RX8 U) : KC l yX1_init cX1_init 2 ({ frames := 1, cells := 1, slots := 8, locals := 16 }) 1 8 E TXZ cy D (fun _ => True) 1 [.null, .int 0] [zv 8] 64 := by
  refine k_of (gc := (fun _ => True)) trivial (by decide +kernel) rfl (fun h0 => Nat.le_of_ble_eq_true rfl) ?_
  intro h0 p e s m below meth c hlocks hr hin C hEs hA
  have hK := (hE.1 _ _ hEs).1
  refine gq_pick (lv' := [(0, .ref h0), (1, zv 8)]) [0, 1] rfl ?_
  refine gq_aln C 0 dX1_init_0 rfl rfl rfl ?_
  refine k_obj C m_134 m_10 m_11 dX1_init_1 (Nat.le_of_ble_eq_true rfl) (Nat.le_of_ble_eq_true rfl) rfl ?_
  refine gq_aln C 0 dX1_init_4 rfl rfl rfl ?_
  refine gq_iln C 1 dX1_init_5 rfl rfl rfl ?_
  refine gq_ic C dX1_init_6 rfl ?_
  refine k_max C ⟨by decide, by decide⟩ m_135 m_136 m_137 m_138 (Nat.le_of_ble_eq_true rfl) (Nat.le_of_ble_eq_true rfl) (Nat.le_of_ble_eq_true rfl) (Nat.le_of_ble_eq_true rfl) dX1_init_7 rfl ?_
  refine k_newa (gc' := (fun _ => True)) (N' := 8) (g := 44) (x := .inl (fun _ => 0)) C hK hA (atype := .int) m_119 rfl rfl (xa_zI 8) (by decide +kernel) (by decide +kernel) (by decide +kernel) rfl ⟨_, rfl⟩ (helz (by decide +kernel)) (fun _ _ => trivial) (Nat.le_of_ble_eq_true rfl) (Nat.le_of_ble_eq_true rfl) dX1_init_10 rfl (fun b1 => ?_)
  refine k_putF (C0 := RX1) (T0 := TX1) (N := 2) (ty := (tyX1 0)) (fr' := [(h0, .inr (1, [.ref b1, .int 0]))]) C hK inlX1 tyX1 tyX1_ok nmX1 0 rfl rfl 0 (by decide) m_139 (fun _ h9 => h9) rfl hin rfl (by decide +kernel) rfl rfl (Nat.le_of_ble_eq_true rfl) dX1_init_12 rfl rfl ?_
  refine gq_aln C 0 dX1_init_15 rfl rfl rfl ?_
  refine gq_ic C dX1_init_16 rfl ?_
  refine k_put (C0 := RX1) (T0 := TX1) (N := 2) (ty := (tyX1 1)) (fr' := [(h0, .inr (1, [.ref b1, zv 0]))]) C hK inlX1 tyX1 tyX1_ok nmX1 0 rfl rfl 1 (by decide) m_140 (fun _ h9 => h9) rfl (by decide +kernel) rfl rfl (Nat.le_of_ble_eq_true rfl) dX1_init_17 rfl rfl ?_
  refine gq_wd (cl' := 1) (sl' := 8) (Nat.le_of_ble_eq_true rfl) (Nat.le_of_ble_eq_true rfl) ?_
  exact k_ret (gf := [64]) C hlocks hr dX1_init_20 rfl rfl rfl rfl rfl rfl (fun _ _ => trivial) (fun gs ad hq => ⟨⟨_, rfl, rfl, oks_ok (show oks _ _ _ [.ref b1, zv 0] from ⟨(rt_ok (hq (b1, 44) (List.mem_append_right _ (List.mem_singleton.mpr rfl))) (by decide)), ⟨_, rfl, by decide +kernel, by decide +kernel⟩, trivial⟩)⟩, trivial⟩)
set_option maxRecDepth 100000 in
set_option maxHeartbeats 4000000 in
theorem kc_X1_0 {l : Launch} {E : (Nat → Prop) → State → Prop} {D : va_G} {cy : Nat → ClassId} (hE : fx_env E D classes (tys cy) nestW) (hX : ∀ A U, E A U → va_AO RX1 U ∧ va_AO RX8 U) : KC l yX1_init cX1_init 2 ({ frames := 1, cells := 1, slots := 0, locals := 16 }) 1 0 E TXZ cy D (fun _ => True) 1 [.null, .int 0] [zv 0] 65 := by
  refine k_of (gc := (fun _ => True)) trivial (by decide +kernel) rfl (fun h0 => Nat.le_of_ble_eq_true rfl) ?_
  intro h0 p e s m below meth c hlocks hr hin C hEs hA
  have hK := (hE.1 _ _ hEs).1
  refine gq_pick (lv' := [(0, .ref h0), (1, zv 0)]) [0, 1] rfl ?_
  refine gq_aln C 0 dX1_init_0 rfl rfl rfl ?_
  refine k_obj C m_134 m_10 m_11 dX1_init_1 (Nat.le_of_ble_eq_true rfl) (Nat.le_of_ble_eq_true rfl) rfl ?_
  refine gq_aln C 0 dX1_init_4 rfl rfl rfl ?_
  refine gq_iln C 1 dX1_init_5 rfl rfl rfl ?_
  refine gq_ic C dX1_init_6 rfl ?_
  refine k_max C ⟨by decide, by decide⟩ m_135 m_136 m_137 m_138 (Nat.le_of_ble_eq_true rfl) (Nat.le_of_ble_eq_true rfl) (Nat.le_of_ble_eq_true rfl) (Nat.le_of_ble_eq_true rfl) dX1_init_7 rfl ?_
  refine k_newa (gc' := (fun _ => True)) (N' := 0) (g := 45) (x := .inl (fun _ => 0)) C hK hA (atype := .int) m_119 rfl rfl (xa_zI 0) (by decide +kernel) (by decide +kernel) (by decide +kernel) rfl ⟨_, rfl⟩ (helz (by decide +kernel)) (fun _ _ => trivial) (Nat.le_of_ble_eq_true rfl) (Nat.le_of_ble_eq_true rfl) dX1_init_10 rfl (fun b1 => ?_)
  refine k_putF (C0 := RX1) (T0 := TX1) (N := 2) (ty := (tyX1 0)) (fr' := [(h0, .inr (1, [.ref b1, .int 0]))]) C hK inlX1 tyX1 tyX1_ok nmX1 0 rfl rfl 0 (by decide) m_139 (fun _ h9 => h9) rfl hin rfl (by decide +kernel) rfl rfl (Nat.le_of_ble_eq_true rfl) dX1_init_12 rfl rfl ?_
  refine gq_aln C 0 dX1_init_15 rfl rfl rfl ?_
  refine gq_ic C dX1_init_16 rfl ?_
  refine k_put (C0 := RX1) (T0 := TX1) (N := 2) (ty := (tyX1 1)) (fr' := [(h0, .inr (1, [.ref b1, zv 0]))]) C hK inlX1 tyX1 tyX1_ok nmX1 0 rfl rfl 1 (by decide) m_140 (fun _ h9 => h9) rfl (by decide +kernel) rfl rfl (Nat.le_of_ble_eq_true rfl) dX1_init_17 rfl rfl ?_
  refine gq_wd (cl' := 1) (sl' := 0) (Nat.le_of_ble_eq_true rfl) (Nat.le_of_ble_eq_true rfl) ?_
  exact k_ret (gf := [65]) C hlocks hr dX1_init_20 rfl rfl rfl rfl rfl rfl (fun _ _ => trivial) (fun gs ad hq => ⟨⟨_, rfl, rfl, oks_ok (show oks _ _ _ [.ref b1, zv 0] from ⟨(rt_ok (hq (b1, 45) (List.mem_append_right _ (List.mem_singleton.mpr rfl))) (by decide)), ⟨_, rfl, by decide +kernel, by decide +kernel⟩, trivial⟩)⟩, trivial⟩)
set_option maxRecDepth 100000 in
set_option maxHeartbeats 4000000 in
theorem kc_X8 {l : Launch} {E : (Nat → Prop) → State → Prop} {D : va_G} {cy : Nat → ClassId} (hE : fx_env E D classes (tys cy) nestW) (hX : ∀ A U, E A U → va_AO RX1 U ∧ va_AO RX8 U) : KC l yX8_init cX8_init 1 ({ frames := 2, cells := 2, slots := 14, locals := 37 }) 2 14 E TXZ cy D (fun _ => True) 8 [.null, .int 0, .int 0] [] 10 := by
  refine k_of (gc := (fun _ => True)) trivial (by decide +kernel) rfl (fun h0 => Nat.le_of_ble_eq_true rfl) ?_
  intro h0 p e s m below meth c hlocks hr hin C hEs hA
  have hK := (hE.1 _ _ hEs).1
  refine gq_pick (lv' := [(0, .ref h0)]) [0] rfl ?_
  refine gq_aln C 0 dX8_init_0 rfl rfl rfl ?_
  refine k_obj C m_164 m_10 m_11 dX8_init_1 (Nat.le_of_ble_eq_true rfl) (Nat.le_of_ble_eq_true rfl) rfl ?_
  refine gq_aln C 0 dX8_init_4 rfl rfl rfl ?_
  refine k_new (C0 := RX1) (T0 := TX1) (N := 2) (ci := 1) C hK hA inlX1 tyX1 tyX1_ok m_165 m_37 m_38 rfl dfX1 (Nat.le_of_ble_eq_true rfl) (Nat.le_of_ble_eq_true rfl) dX8_init_5 rfl (fun b1 => ?_)
  refine gq_st (ws' := kP TXZ cy D _ _ (fun _ => True) [(h0, .inr (8, [.null, .int 0, .int 0])), (b1, .inr (1, [.null, .int 0]))] ([])) (fun _ _ h => h) ?_
  refine gq_dup C dX8_init_8 rfl rfl ?_
  refine gq_bi C dX8_init_9 (by decide +kernel) rfl ?_
  refine k_init (gc' := fun _ => True) (fr := [(h0, .inr (8, [.null, .int 0, .int 0]))]) (As := [zv 12]) (rest := [.ref b1, .ref h0]) C hE hEs rfl hA (kc_X1_12 hE hX) (fun _ _ _ _ => trivial) (cwI 1 C.2.2.2.1 (gdI m_133) rfl rfl rfl (C.2.2.2.1 _ m_38) (C.2.2.2.1 _ m_169) (C.2.2.2.1 _ m_132) rfl (by decide +kernel) ⟨Nat.le_of_ble_eq_true rfl, Nat.le_of_ble_eq_true rfl⟩) rfl rfl (Nat.le_of_ble_eq_true rfl) dX8_init_11 ⟨(Nat.le_of_ble_eq_true rfl), (Nat.le_of_ble_eq_true rfl)⟩ rfl ?_
  refine k_putF (C0 := RX8) (T0 := TX8) (N := 3) (ty := (tyX8 0)) (fr' := [(h0, .inr (8, [.ref b1, .int 0, .int 0]))]) C hK inlX8 tyX8 tyX8_ok nmX8 0 rfl rfl 0 (by decide) m_166 (fun _ h9 => h9) rfl hin rfl (by decide +kernel) rfl rfl (Nat.le_of_ble_eq_true rfl) dX8_init_14 rfl rfl ?_
  refine gq_aln C 0 dX8_init_17 rfl rfl rfl ?_
  refine gq_ic C dX8_init_18 rfl ?_
  refine k_put (C0 := RX8) (T0 := TX8) (N := 3) (ty := (tyX8 1)) (fr' := [(h0, .inr (8, [.ref b1, zv 0, .int 0]))]) C hK inlX8 tyX8 tyX8_ok nmX8 0 rfl rfl 1 (by decide) m_167 (fun _ h9 => h9) rfl (by decide +kernel) rfl rfl (Nat.le_of_ble_eq_true rfl) dX8_init_19 rfl rfl ?_
  refine gq_aln C 0 dX8_init_22 rfl rfl rfl ?_
  refine gq_ic C dX8_init_23 rfl ?_
  refine k_put (C0 := RX8) (T0 := TX8) (N := 3) (ty := (tyX8 2)) (fr' := [(h0, .inr (8, [.ref b1, zv 0, zv 0]))]) C hK inlX8 tyX8 tyX8_ok nmX8 0 rfl rfl 2 (by decide) m_168 (fun _ h9 => h9) rfl (by decide +kernel) rfl rfl (Nat.le_of_ble_eq_true rfl) dX8_init_24 rfl rfl ?_
  refine gq_wd (cl' := 2) (sl' := 14) (Nat.le_of_ble_eq_true rfl) (Nat.le_of_ble_eq_true rfl) ?_
  exact k_ret (gf := [10]) C hlocks hr dX8_init_27 rfl rfl rfl rfl rfl rfl (fun _ _ => trivial) (fun gs ad hq => ⟨⟨_, rfl, rfl, oks_ok (show oks _ _ _ [.ref b1, zv 0, zv 0] from ⟨(rt_ok (hq (b1, 11) (List.mem_append_right _ (List.mem_singleton.mpr rfl))) (by decide)), ⟨_, rfl, by decide +kernel, by decide +kernel⟩, ⟨_, rfl, by decide +kernel, by decide +kernel⟩, trivial⟩)⟩, trivial⟩)
set_option maxRecDepth 100000 in
set_option maxHeartbeats 4000000 in
theorem kc_X0 {l : Launch} {E : (Nat → Prop) → State → Prop} {D : va_G} {cy : Nat → ClassId} (hE : fx_env E D classes (tys cy) nestW) (hX : ∀ A U, E A U → va_AO RX1 U ∧ va_AO RX8 U) : KC l yX0_init cX0_init 1 ({ frames := 1, cells := 4, slots := 1094, locals := 12 }) 4 1094 E TXZ cy D (fun _ => True) 0 [.null, .null, .null, .null, .int 0, .int 0, .int 0, .int 0] [] 9 := by
  refine k_of (gc := (fun _ => True)) trivial (by decide +kernel) rfl (fun h0 => Nat.le_of_ble_eq_true rfl) ?_
  intro h0 p e s m below meth c hlocks hr hin C hEs hA
  have hK := (hE.1 _ _ hEs).1
  refine gq_pick (lv' := [(0, .ref h0)]) [0] rfl ?_
  refine gq_aln C 0 dX0_init_0 rfl rfl rfl ?_
  refine k_obj C m_144 m_10 m_11 dX0_init_1 (Nat.le_of_ble_eq_true rfl) (Nat.le_of_ble_eq_true rfl) rfl ?_
  refine gq_aln C 0 dX0_init_4 rfl rfl rfl ?_
  refine gq_si C dX0_init_5 (by decide +kernel) rfl ?_
  refine k_newa (gc' := (fun _ => True)) (N' := 512) (g := 17) (x := .inl (fun _ => 0)) C hK hA (atype := .int) m_119 rfl rfl (xa_zI 512) (by decide +kernel) (by decide +kernel) (by decide +kernel) rfl ⟨_, rfl⟩ (helz (by decide +kernel)) (fun _ _ => trivial) (Nat.le_of_ble_eq_true rfl) (Nat.le_of_ble_eq_true rfl) dX0_init_8 rfl (fun b1 => ?_)
  refine k_putF (C0 := RX0) (T0 := TX0) (N := 8) (ty := (tyX0 0)) (fr' := [(h0, .inr (0, [.ref b1, .null, .null, .null, .int 0, .int 0, .int 0, .int 0]))]) C hK inlX0 tyX0 tyX0_ok nmX0 0 rfl rfl 0 (by decide) m_145 (fun _ h9 => h9) rfl hin rfl (by decide +kernel) rfl rfl (Nat.le_of_ble_eq_true rfl) dX0_init_10 rfl rfl ?_
  refine gq_aln C 0 dX0_init_13 rfl rfl rfl ?_
  refine gq_si C dX0_init_14 (by decide +kernel) rfl ?_
  refine k_newa (gc' := (fun _ => True)) (N' := 512) (g := 18) (x := .inl (fun _ => 0)) C hK hA (atype := .int) m_119 rfl rfl (xa_zI 512) (by decide +kernel) (by decide +kernel) (by decide +kernel) rfl ⟨_, rfl⟩ (helz (by decide +kernel)) (fun _ _ => trivial) (Nat.le_of_ble_eq_true rfl) (Nat.le_of_ble_eq_true rfl) dX0_init_17 rfl (fun b2 => ?_)
  refine k_putF (C0 := RX0) (T0 := TX0) (N := 8) (ty := (tyX0 1)) (fr' := [(h0, .inr (0, [.ref b1, .ref b2, .null, .null, .int 0, .int 0, .int 0, .int 0]))]) C hK inlX0 tyX0 tyX0_ok nmX0 0 rfl rfl 1 (by decide) m_146 (fun _ h9 => h9) rfl hin rfl (by decide +kernel) rfl rfl (Nat.le_of_ble_eq_true rfl) dX0_init_19 rfl rfl ?_
  refine gq_aln C 0 dX0_init_22 rfl rfl rfl ?_
  refine gq_bi C dX0_init_23 (by decide +kernel) rfl ?_
  refine k_newa (gc' := (fun _ => True)) (N' := 64) (g := 19) (x := .inl (fun _ => 0)) C hK hA (atype := .int) m_119 rfl rfl (xa_zI 64) (by decide +kernel) (by decide +kernel) (by decide +kernel) rfl ⟨_, rfl⟩ (helz (by decide +kernel)) (fun _ _ => trivial) (Nat.le_of_ble_eq_true rfl) (Nat.le_of_ble_eq_true rfl) dX0_init_25 rfl (fun b3 => ?_)
  refine k_putF (C0 := RX0) (T0 := TX0) (N := 8) (ty := (tyX0 2)) (fr' := [(h0, .inr (0, [.ref b1, .ref b2, .ref b3, .null, .int 0, .int 0, .int 0, .int 0]))]) C hK inlX0 tyX0 tyX0_ok nmX0 0 rfl rfl 2 (by decide) m_147 (fun _ h9 => h9) rfl hin rfl (by decide +kernel) rfl rfl (Nat.le_of_ble_eq_true rfl) dX0_init_27 rfl rfl ?_
  refine gq_aln C 0 dX0_init_30 rfl rfl rfl ?_
  refine gq_bi C dX0_init_31 (by decide +kernel) rfl ?_
  refine k_newa (gc' := (fun _ => True)) (N' := 6) (g := 20) (x := .inl (fun _ => 0)) C hK hA (atype := .int) m_119 rfl rfl (xa_zI 6) (by decide +kernel) (by decide +kernel) (by decide +kernel) rfl ⟨_, rfl⟩ (helz (by decide +kernel)) (fun _ _ => trivial) (Nat.le_of_ble_eq_true rfl) (Nat.le_of_ble_eq_true rfl) dX0_init_33 rfl (fun b4 => ?_)
  refine k_putF (C0 := RX0) (T0 := TX0) (N := 8) (ty := (tyX0 3)) (fr' := [(h0, .inr (0, [.ref b1, .ref b2, .ref b3, .ref b4, .int 0, .int 0, .int 0, .int 0]))]) C hK inlX0 tyX0 tyX0_ok nmX0 0 rfl rfl 3 (by decide) m_148 (fun _ h9 => h9) rfl hin rfl (by decide +kernel) rfl rfl (Nat.le_of_ble_eq_true rfl) dX0_init_35 rfl rfl ?_
  refine gq_wd (cl' := 4) (sl' := 1094) (Nat.le_of_ble_eq_true rfl) (Nat.le_of_ble_eq_true rfl) ?_
  exact k_ret (gf := [9]) C hlocks hr dX0_init_38 rfl rfl rfl rfl rfl rfl (fun _ _ => trivial) (fun gs ad hq => ⟨⟨_, rfl, rfl, oks_ok (show oks _ _ _ [.ref b1, .ref b2, .ref b3, .ref b4, .int 0, .int 0, .int 0, .int 0] from ⟨(rt_ok (hq (b1, 17) (List.mem_append_left _ (List.mem_append_left _ (List.mem_append_left _ (List.mem_append_right _ (List.mem_singleton.mpr rfl)))))) (by decide)), (rt_ok (hq (b2, 18) (List.mem_append_left _ (List.mem_append_left _ (List.mem_append_right _ (List.mem_singleton.mpr rfl))))) (by decide)), (rt_ok (hq (b3, 19) (List.mem_append_left _ (List.mem_append_right _ (List.mem_singleton.mpr rfl)))) (by decide)), (rt_ok (hq (b4, 20) (List.mem_append_right _ (List.mem_singleton.mpr rfl))) (by decide)), ⟨_, rfl, by decide +kernel, by decide +kernel⟩, ⟨_, rfl, by decide +kernel, by decide +kernel⟩, ⟨_, rfl, by decide +kernel, by decide +kernel⟩, ⟨_, rfl, by decide +kernel, by decide +kernel⟩, trivial⟩)⟩, trivial⟩)
set_option maxRecDepth 100000 in
set_option maxHeartbeats 4000000 in
theorem kc_X2 {l : Launch} {E : (Nat → Prop) → State → Prop} {D : va_G} {cy : Nat → ClassId} (hE : fx_env E D classes (tys cy) nestW) (hX : ∀ A U, E A U → va_AO RX1 U ∧ va_AO RX8 U) : KC l yX2_init cX2_init 1 ({ frames := 1, cells := 1, slots := 4096, locals := 12 }) 1 4096 E TXZ cy D (fun _ => True) 2 [.null] [] 4 := by
  refine k_of (gc := (fun _ => True)) trivial (by decide +kernel) rfl (fun h0 => Nat.le_of_ble_eq_true rfl) ?_
  intro h0 p e s m below meth c hlocks hr hin C hEs hA
  have hK := (hE.1 _ _ hEs).1
  refine gq_pick (lv' := [(0, .ref h0)]) [0] rfl ?_
  refine gq_aln C 0 dX2_init_0 rfl rfl rfl ?_
  refine k_obj C m_186 m_10 m_11 dX2_init_1 (Nat.le_of_ble_eq_true rfl) (Nat.le_of_ble_eq_true rfl) rfl ?_
  refine gq_aln C 0 dX2_init_4 rfl rfl rfl ?_
  refine gq_si C dX2_init_5 (by decide +kernel) rfl ?_
  refine k_newa (gc' := (fun _ => True)) (N' := 4096) (g := 35) (x := .inl (fun _ => 0)) C hK hA (atype := .int) m_119 rfl rfl (xa_zI 4096) (by decide +kernel) (by decide +kernel) (by decide +kernel) rfl ⟨_, rfl⟩ (helz (by decide +kernel)) (fun _ _ => trivial) (Nat.le_of_ble_eq_true rfl) (Nat.le_of_ble_eq_true rfl) dX2_init_8 rfl (fun b1 => ?_)
  refine k_putF (C0 := RX2) (T0 := TX2) (N := 1) (ty := (tyX2 0)) (fr' := [(h0, .inr (2, [.ref b1]))]) C hK inlX2 tyX2 tyX2_ok nmX2 0 rfl rfl 0 (by decide) m_187 (fun _ h9 => h9) rfl hin rfl (by decide +kernel) rfl rfl (Nat.le_of_ble_eq_true rfl) dX2_init_10 rfl rfl ?_
  refine gq_wd (cl' := 1) (sl' := 4096) (Nat.le_of_ble_eq_true rfl) (Nat.le_of_ble_eq_true rfl) ?_
  exact k_ret (gf := [4]) C hlocks hr dX2_init_13 rfl rfl rfl rfl rfl rfl (fun _ _ => trivial) (fun gs ad hq => ⟨⟨_, rfl, rfl, oks_ok (show oks _ _ _ [.ref b1] from ⟨(rt_ok (hq (b1, 35) (List.mem_append_right _ (List.mem_singleton.mpr rfl))) (by decide)), trivial⟩)⟩, trivial⟩)
set_option maxRecDepth 100000 in
set_option maxHeartbeats 4000000 in
theorem kc_X3 {l : Launch} {E : (Nat → Prop) → State → Prop} {D : va_G} {cy : Nat → ClassId} (hE : fx_env E D classes (tys cy) nestW) (hX : ∀ A U, E A U → va_AO RX1 U ∧ va_AO RX8 U) : KC l yX3_init cX3_init 1 ({ frames := 2, cells := 6, slots := 42, locals := 37 }) 6 42 E TXZ cy D (fun _ => True) 3 [.null, .null, .null] [] 5 := by
  refine k_of (gc := (fun _ => True)) trivial (by decide +kernel) rfl (fun h0 => Nat.le_of_ble_eq_true rfl) ?_
  intro h0 p e s m below meth c hlocks hr hin C hEs hA
  have hK := (hE.1 _ _ hEs).1
  refine gq_pick (lv' := [(0, .ref h0)]) [0] rfl ?_
  refine gq_aln C 0 dX3_init_0 rfl rfl rfl ?_
  refine k_obj C m_191 m_10 m_11 dX3_init_1 (Nat.le_of_ble_eq_true rfl) (Nat.le_of_ble_eq_true rfl) rfl ?_
  refine gq_aln C 0 dX3_init_4 rfl rfl rfl ?_
  refine k_new (C0 := RX1) (T0 := TX1) (N := 2) (ci := 1) C hK hA inlX1 tyX1 tyX1_ok m_192 m_37 m_38 rfl dfX1 (Nat.le_of_ble_eq_true rfl) (Nat.le_of_ble_eq_true rfl) dX3_init_5 rfl (fun b1 => ?_)
  refine gq_st (ws' := kP TXZ cy D _ _ (fun _ => True) [(h0, .inr (3, [.null, .null, .null])), (b1, .inr (1, [.null, .int 0]))] ([])) (fun _ _ h => h) ?_
  refine gq_dup C dX3_init_8 rfl rfl ?_
  refine gq_bi C dX3_init_9 (by decide +kernel) rfl ?_
  refine k_init (gc' := fun _ => True) (fr := [(h0, .inr (3, [.null, .null, .null]))]) (As := [zv 12]) (rest := [.ref b1, .ref h0]) C hE hEs rfl hA (kc_X1_12 hE hX) (fun _ _ _ _ => trivial) (cwI 1 C.2.2.2.1 (gdI m_133) rfl rfl rfl (C.2.2.2.1 _ m_38) (C.2.2.2.1 _ m_196) (C.2.2.2.1 _ m_132) rfl (by decide +kernel) ⟨Nat.le_of_ble_eq_true rfl, Nat.le_of_ble_eq_true rfl⟩) rfl rfl (Nat.le_of_ble_eq_true rfl) dX3_init_11 ⟨(Nat.le_of_ble_eq_true rfl), (Nat.le_of_ble_eq_true rfl)⟩ rfl ?_
  refine k_putF (C0 := RX3) (T0 := TX3) (N := 3) (ty := (tyX3 0)) (fr' := [(h0, .inr (3, [.ref b1, .null, .null]))]) C hK inlX3 tyX3 tyX3_ok nmX3 0 rfl rfl 0 (by decide) m_193 (fun _ h9 => h9) rfl hin rfl (by decide +kernel) rfl rfl (Nat.le_of_ble_eq_true rfl) dX3_init_14 rfl rfl ?_
  refine gq_aln C 0 dX3_init_17 rfl rfl rfl ?_
  refine k_new (C0 := RX1) (T0 := TX1) (N := 2) (ci := 1) C hK hA inlX1 tyX1 tyX1_ok m_192 m_37 m_38 rfl dfX1 (Nat.le_of_ble_eq_true rfl) (Nat.le_of_ble_eq_true rfl) dX3_init_18 rfl (fun b2 => ?_)
  refine gq_st (ws' := kP TXZ cy D _ _ (fun _ => True) [(h0, .inr (3, [.ref b1, .null, .null])), (b2, .inr (1, [.null, .int 0]))] ([] ++ [(b1, 11)])) (fun _ _ h => h) ?_
  refine gq_dup C dX3_init_21 rfl rfl ?_
  refine gq_bi C dX3_init_22 (by decide +kernel) rfl ?_
  refine k_init (gc' := fun _ => True) (fr := [(h0, .inr (3, [.ref b1, .null, .null]))]) (As := [zv 12]) (rest := [.ref b2, .ref h0]) C hE hEs rfl hA (kc_X1_12 hE hX) (fun _ _ _ _ => trivial) (cwI 1 C.2.2.2.1 (gdI m_133) rfl rfl rfl (C.2.2.2.1 _ m_38) (C.2.2.2.1 _ m_196) (C.2.2.2.1 _ m_132) rfl (by decide +kernel) ⟨Nat.le_of_ble_eq_true rfl, Nat.le_of_ble_eq_true rfl⟩) rfl rfl (Nat.le_of_ble_eq_true rfl) dX3_init_24 ⟨(Nat.le_of_ble_eq_true rfl), (Nat.le_of_ble_eq_true rfl)⟩ rfl ?_
  refine k_putF (C0 := RX3) (T0 := TX3) (N := 3) (ty := (tyX3 1)) (fr' := [(h0, .inr (3, [.ref b1, .ref b2, .null]))]) C hK inlX3 tyX3 tyX3_ok nmX3 0 rfl rfl 1 (by decide) m_194 (fun _ h9 => h9) rfl hin rfl (by decide +kernel) rfl rfl (Nat.le_of_ble_eq_true rfl) dX3_init_27 rfl rfl ?_
  refine gq_aln C 0 dX3_init_30 rfl rfl rfl ?_
  refine k_new (C0 := RX1) (T0 := TX1) (N := 2) (ci := 1) C hK hA inlX1 tyX1 tyX1_ok m_192 m_37 m_38 rfl dfX1 (Nat.le_of_ble_eq_true rfl) (Nat.le_of_ble_eq_true rfl) dX3_init_31 rfl (fun b3 => ?_)
  refine gq_st (ws' := kP TXZ cy D _ _ (fun _ => True) [(h0, .inr (3, [.ref b1, .ref b2, .null])), (b3, .inr (1, [.null, .int 0]))] ([] ++ [(b1, 11)] ++ [(b2, 11)])) (fun _ _ h => h) ?_
  refine gq_dup C dX3_init_34 rfl rfl ?_
  refine gq_bi C dX3_init_35 (by decide +kernel) rfl ?_
  refine k_init (gc' := fun _ => True) (fr := [(h0, .inr (3, [.ref b1, .ref b2, .null]))]) (As := [zv 12]) (rest := [.ref b3, .ref h0]) C hE hEs rfl hA (kc_X1_12 hE hX) (fun _ _ _ _ => trivial) (cwI 1 C.2.2.2.1 (gdI m_133) rfl rfl rfl (C.2.2.2.1 _ m_38) (C.2.2.2.1 _ m_196) (C.2.2.2.1 _ m_132) rfl (by decide +kernel) ⟨Nat.le_of_ble_eq_true rfl, Nat.le_of_ble_eq_true rfl⟩) rfl rfl (Nat.le_of_ble_eq_true rfl) dX3_init_37 ⟨(Nat.le_of_ble_eq_true rfl), (Nat.le_of_ble_eq_true rfl)⟩ rfl ?_
  refine k_putF (C0 := RX3) (T0 := TX3) (N := 3) (ty := (tyX3 2)) (fr' := [(h0, .inr (3, [.ref b1, .ref b2, .ref b3]))]) C hK inlX3 tyX3 tyX3_ok nmX3 0 rfl rfl 2 (by decide) m_195 (fun _ h9 => h9) rfl hin rfl (by decide +kernel) rfl rfl (Nat.le_of_ble_eq_true rfl) dX3_init_40 rfl rfl ?_
  refine gq_wd (cl' := 6) (sl' := 42) (Nat.le_of_ble_eq_true rfl) (Nat.le_of_ble_eq_true rfl) ?_
  exact k_ret (gf := [5]) C hlocks hr dX3_init_43 rfl rfl rfl rfl rfl rfl (fun _ _ => trivial) (fun gs ad hq => ⟨⟨_, rfl, rfl, oks_ok (show oks _ _ _ [.ref b1, .ref b2, .ref b3] from ⟨(rt_ok (hq (b1, 11) (List.mem_append_left _ (List.mem_append_left _ (List.mem_append_right _ (List.mem_singleton.mpr rfl))))) (by decide)), (rt_ok (hq (b2, 11) (List.mem_append_left _ (List.mem_append_right _ (List.mem_singleton.mpr rfl)))) (by decide)), (rt_ok (hq (b3, 11) (List.mem_append_right _ (List.mem_singleton.mpr rfl))) (by decide)), trivial⟩)⟩, trivial⟩)
set_option maxRecDepth 100000 in
set_option maxHeartbeats 4000000 in
theorem kc_X4 {l : Launch} {E : (Nat → Prop) → State → Prop} {D : va_G} {cy : Nat → ClassId} (hE : fx_env E D classes (tys cy) nestW) (hX : ∀ A U, E A U → va_AO RX1 U ∧ va_AO RX8 U) : KC l yX4_init cX4_init 1 ({ frames := 2, cells := 6, slots := 1632, locals := 37 }) 6 1632 E TXZ cy D (fun _ => True) 4 [.null, .null, .null, .null, .null, .null, .null] [] 3 := by
  refine k_of (gc := (fun _ => True)) trivial (by decide +kernel) rfl (fun h0 => Nat.le_of_ble_eq_true rfl) ?_
  intro h0 p e s m below meth c hlocks hr hin C hEs hA
  have hK := (hE.1 _ _ hEs).1
  refine gq_pick (lv' := [(0, .ref h0)]) [0] rfl ?_
  refine gq_aln C 0 dX4_init_0 rfl rfl rfl ?_
  refine k_obj C m_173 m_10 m_11 dX4_init_1 (Nat.le_of_ble_eq_true rfl) (Nat.le_of_ble_eq_true rfl) rfl ?_
  refine gq_aln C 0 dX4_init_4 rfl rfl rfl ?_
  refine gq_si C dX4_init_5 (by decide +kernel) rfl ?_
  refine k_newa (gc' := (fun _ => True)) (N' := 169) (g := 31) (x := .inl (fun _ => 0)) C hK hA (atype := .int) m_119 rfl rfl (xa_zI 169) (by decide +kernel) (by decide +kernel) (by decide +kernel) rfl ⟨_, rfl⟩ (helz (by decide +kernel)) (fun _ _ => trivial) (Nat.le_of_ble_eq_true rfl) (Nat.le_of_ble_eq_true rfl) dX4_init_8 rfl (fun b1 => ?_)
  refine k_putF (C0 := RX4) (T0 := TX4) (N := 7) (ty := (tyX4 0)) (fr' := [(h0, .inr (4, [.ref b1, .null, .null, .null, .null, .null, .null]))]) C hK inlX4 tyX4 tyX4_ok nmX4 0 rfl rfl 0 (by decide) m_174 (fun _ h9 => h9) rfl hin rfl (by decide +kernel) rfl rfl (Nat.le_of_ble_eq_true rfl) dX4_init_10 rfl rfl ?_
  refine gq_aln C 0 dX4_init_13 rfl rfl rfl ?_
  refine gq_si C dX4_init_14 (by decide +kernel) rfl ?_
  refine k_newa (gc' := (fun _ => True)) (N' := 729) (g := 32) (x := .inl (fun _ => 0)) C hK hA (atype := .int) m_119 rfl rfl (xa_zI 729) (by decide +kernel) (by decide +kernel) (by decide +kernel) rfl ⟨_, rfl⟩ (helz (by decide +kernel)) (fun _ _ => trivial) (Nat.le_of_ble_eq_true rfl) (Nat.le_of_ble_eq_true rfl) dX4_init_17 rfl (fun b2 => ?_)
  refine k_putF (C0 := RX4) (T0 := TX4) (N := 7) (ty := (tyX4 1)) (fr' := [(h0, .inr (4, [.ref b1, .ref b2, .null, .null, .null, .null, .null]))]) C hK inlX4 tyX4 tyX4_ok nmX4 0 rfl rfl 1 (by decide) m_175 (fun _ h9 => h9) rfl hin rfl (by decide +kernel) rfl rfl (Nat.le_of_ble_eq_true rfl) dX4_init_19 rfl rfl ?_
  refine gq_aln C 0 dX4_init_22 rfl rfl rfl ?_
  refine gq_si C dX4_init_23 (by decide +kernel) rfl ?_
  refine k_newa (gc' := (fun _ => True)) (N' := 729) (g := 33) (x := .inl (fun _ => 0)) C hK hA (atype := .int) m_119 rfl rfl (xa_zI 729) (by decide +kernel) (by decide +kernel) (by decide +kernel) rfl ⟨_, rfl⟩ (helz (by decide +kernel)) (fun _ _ => trivial) (Nat.le_of_ble_eq_true rfl) (Nat.le_of_ble_eq_true rfl) dX4_init_26 rfl (fun b3 => ?_)
  refine k_putF (C0 := RX4) (T0 := TX4) (N := 7) (ty := (tyX4 2)) (fr' := [(h0, .inr (4, [.ref b1, .ref b2, .ref b3, .null, .null, .null, .null]))]) C hK inlX4 tyX4 tyX4_ok nmX4 0 rfl rfl 2 (by decide) m_176 (fun _ h9 => h9) rfl hin rfl (by decide +kernel) rfl rfl (Nat.le_of_ble_eq_true rfl) dX4_init_28 rfl rfl ?_
  refine gq_aln C 0 dX4_init_31 rfl rfl rfl ?_
  refine gq_ic C dX4_init_32 rfl ?_
  refine k_newa (gc' := (fun _ => True)) (N' := 3) (g := 34) (x := .inl (fun _ => 0)) C hK hA (atype := .int) m_119 rfl rfl (xa_zI 3) (by decide +kernel) (by decide +kernel) (by decide +kernel) rfl ⟨_, rfl⟩ (helz (by decide +kernel)) (fun _ _ => trivial) (Nat.le_of_ble_eq_true rfl) (Nat.le_of_ble_eq_true rfl) dX4_init_33 rfl (fun b4 => ?_)
  refine k_putF (C0 := RX4) (T0 := TX4) (N := 7) (ty := (tyX4 3)) (fr' := [(h0, .inr (4, [.ref b1, .ref b2, .ref b3, .ref b4, .null, .null, .null]))]) C hK inlX4 tyX4 tyX4_ok nmX4 0 rfl rfl 3 (by decide) m_177 (fun _ h9 => h9) rfl hin rfl (by decide +kernel) rfl rfl (Nat.le_of_ble_eq_true rfl) dX4_init_35 rfl rfl ?_
  refine gq_aln C 0 dX4_init_38 rfl rfl rfl ?_
  refine k_new (C0 := RX1) (T0 := TX1) (N := 2) (ci := 1) C hK hA inlX1 tyX1 tyX1_ok m_178 m_37 m_38 rfl dfX1 (Nat.le_of_ble_eq_true rfl) (Nat.le_of_ble_eq_true rfl) dX4_init_39 rfl (fun b5 => ?_)
  refine gq_st (ws' := kP TXZ cy D _ _ (fun _ => True) [(h0, .inr (4, [.ref b1, .ref b2, .ref b3, .ref b4, .null, .null, .null])), (b5, .inr (1, [.null, .int 0]))] ([] ++ [(b1, 31)] ++ [(b2, 32)] ++ [(b3, 33)] ++ [(b4, 34)])) (fun _ _ h => h) ?_
  refine gq_dup C dX4_init_42 rfl rfl ?_
  refine gq_ic C dX4_init_43 rfl ?_
  refine k_init (gc' := fun _ => True) (fr := [(h0, .inr (4, [.ref b1, .ref b2, .ref b3, .ref b4, .null, .null, .null]))]) (As := [zv 0]) (rest := [.ref b5, .ref h0]) C hE hEs rfl hA (kc_X1_0 hE hX) (fun _ _ _ _ => trivial) (cwI 1 C.2.2.2.1 (gdI m_133) rfl rfl rfl (C.2.2.2.1 _ m_38) (C.2.2.2.1 _ m_182) (C.2.2.2.1 _ m_132) rfl (by decide +kernel) ⟨Nat.le_of_ble_eq_true rfl, Nat.le_of_ble_eq_true rfl⟩) rfl rfl (Nat.le_of_ble_eq_true rfl) dX4_init_44 ⟨(Nat.le_of_ble_eq_true rfl), (Nat.le_of_ble_eq_true rfl)⟩ rfl ?_
  refine k_put (C0 := RX4) (T0 := TX4) (N := 7) (ty := (tyX4 4)) (fr' := [(h0, .inr (4, [.ref b1, .ref b2, .ref b3, .ref b4, .ref b5, .null, .null]))]) C hK inlX4 tyX4 tyX4_ok nmX4 0 rfl rfl 4 (by decide) m_179 (fun _ h9 => h9) rfl (by decide +kernel) rfl rfl (Nat.le_of_ble_eq_true rfl) dX4_init_47 rfl rfl ?_
  refine gq_aln C 0 dX4_init_50 rfl rfl rfl ?_
  refine gq_aln C 0 dX4_init_51 rfl rfl rfl ?_
  refine k_get (C0 := RX4) (T0 := TX4) (N := 7) C hK inlX4 0 rfl rfl 4 (by decide) m_179 (fun _ h9 => h9) rfl dX4_init_52 rfl ?_
  refine k_put (C0 := RX4) (T0 := TX4) (N := 7) (ty := (tyX4 5)) (fr' := [(h0, .inr (4, [.ref b1, .ref b2, .ref b3, .ref b4, .ref b5, .ref b5, .null]))]) C hK inlX4 tyX4 tyX4_ok nmX4 0 rfl rfl 5 (by decide) m_180 (fun _ h9 => h9) rfl (by decide +kernel) rfl rfl (Nat.le_of_ble_eq_true rfl) dX4_init_55 rfl rfl ?_
  refine gq_aln C 0 dX4_init_58 rfl rfl rfl ?_
  refine gq_aln C 0 dX4_init_59 rfl rfl rfl ?_
  refine k_get (C0 := RX4) (T0 := TX4) (N := 7) C hK inlX4 0 rfl rfl 4 (by decide) m_179 (fun _ h9 => h9) rfl dX4_init_60 rfl ?_
  refine k_put (C0 := RX4) (T0 := TX4) (N := 7) (ty := (tyX4 6)) (fr' := [(h0, .inr (4, [.ref b1, .ref b2, .ref b3, .ref b4, .ref b5, .ref b5, .ref b5]))]) C hK inlX4 tyX4 tyX4_ok nmX4 0 rfl rfl 6 (by decide) m_181 (fun _ h9 => h9) rfl (by decide +kernel) rfl rfl (Nat.le_of_ble_eq_true rfl) dX4_init_63 rfl rfl ?_
  refine gq_wd (cl' := 6) (sl' := 1632) (Nat.le_of_ble_eq_true rfl) (Nat.le_of_ble_eq_true rfl) ?_
  exact k_ret (gf := [3]) C hlocks hr dX4_init_66 rfl rfl rfl rfl rfl rfl (fun _ _ => trivial) (fun gs ad hq => ⟨⟨_, rfl, rfl, oks_ok (show oks _ _ _ [.ref b1, .ref b2, .ref b3, .ref b4, .ref b5, .ref b5, .ref b5] from ⟨(rt_ok (hq (b1, 31) (List.mem_append_left _ (List.mem_append_left _ (List.mem_append_left _ (List.mem_append_left _ (List.mem_append_right _ (List.mem_singleton.mpr rfl))))))) (by decide)), (rt_ok (hq (b2, 32) (List.mem_append_left _ (List.mem_append_left _ (List.mem_append_left _ (List.mem_append_right _ (List.mem_singleton.mpr rfl)))))) (by decide)), (rt_ok (hq (b3, 33) (List.mem_append_left _ (List.mem_append_left _ (List.mem_append_right _ (List.mem_singleton.mpr rfl))))) (by decide)), (rt_ok (hq (b4, 34) (List.mem_append_left _ (List.mem_append_right _ (List.mem_singleton.mpr rfl)))) (by decide)), (rt_okU (hq (b5, 65) (List.mem_append_right _ (List.mem_singleton.mpr rfl))) (by decide) ⟨by decide, by decide⟩), (rt_okU (hq (b5, 65) (List.mem_append_right _ (List.mem_singleton.mpr rfl))) (by decide) ⟨by decide, by decide⟩), (rt_okU (hq (b5, 65) (List.mem_append_right _ (List.mem_singleton.mpr rfl))) (by decide) ⟨by decide, by decide⟩), trivial⟩)⟩, trivial⟩)
set_option maxRecDepth 100000 in
set_option maxHeartbeats 4000000 in
theorem kc_X7 {l : Launch} {E : (Nat → Prop) → State → Prop} {D : va_G} {cy : Nat → ClassId} (hE : fx_env E D classes (tys cy) nestW) (hX : ∀ A U, E A U → va_AO RX1 U ∧ va_AO RX8 U) : KC l yX7_init cX7_init 1 ({ frames := 2, cells := 10, slots := 167, locals := 37 }) 10 167 E TXZ cy D (fun _ => True) 7 [.null, .null, .null, .null, .null, .null, .null, .null, .null, .int 0, .int 0, .int 0, .int 0] [] 6 := by
  refine k_of (gc := (fun _ => True)) trivial (by decide +kernel) rfl (fun h0 => Nat.le_of_ble_eq_true rfl) ?_
  intro h0 p e s m below meth c hlocks hr hin C hEs hA
  have hK := (hE.1 _ _ hEs).1
  refine gq_pick (lv' := [(0, .ref h0)]) [0] rfl ?_
  refine gq_aln C 0 dX7_init_0 rfl rfl rfl ?_
  refine k_obj C m_200 m_10 m_11 dX7_init_1 (Nat.le_of_ble_eq_true rfl) (Nat.le_of_ble_eq_true rfl) rfl ?_
  refine gq_aln C 0 dX7_init_4 rfl rfl rfl ?_
  refine gq_ic C dX7_init_5 rfl ?_
  refine k_newa (gc' := (fun _ => True)) (N' := 5) (g := 36) (x := .inl (fun _ => 0)) C hK hA (atype := .int) m_119 rfl rfl (xa_zI 5) (by decide +kernel) (by decide +kernel) (by decide +kernel) rfl ⟨_, rfl⟩ (helz (by decide +kernel)) (fun _ _ => trivial) (Nat.le_of_ble_eq_true rfl) (Nat.le_of_ble_eq_true rfl) dX7_init_6 rfl (fun b1 => ?_)
  refine k_putF (C0 := RX7) (T0 := TX7) (N := 13) (ty := (tyX7 0)) (fr' := [(h0, .inr (7, [.ref b1, .null, .null, .null, .null, .null, .null, .null, .null, .int 0, .int 0, .int 0, .int 0]))]) C hK inlX7 tyX7 tyX7_ok nmX7 0 rfl rfl 0 (by decide) m_201 (fun _ h9 => h9) rfl hin rfl (by decide +kernel) rfl rfl (Nat.le_of_ble_eq_true rfl) dX7_init_8 rfl rfl ?_
  refine gq_aln C 0 dX7_init_11 rfl rfl rfl ?_
  refine gq_bi C dX7_init_12 (by decide +kernel) rfl ?_
  refine k_newa (gc' := (fun _ => True)) (N' := 30) (g := 37) (x := .inl (fun _ => 0)) C hK hA (atype := .int) m_119 rfl rfl (xa_zI 30) (by decide +kernel) (by decide +kernel) (by decide +kernel) rfl ⟨_, rfl⟩ (helz (by decide +kernel)) (fun _ _ => trivial) (Nat.le_of_ble_eq_true rfl) (Nat.le_of_ble_eq_true rfl) dX7_init_14 rfl (fun b2 => ?_)
  refine k_putF (C0 := RX7) (T0 := TX7) (N := 13) (ty := (tyX7 1)) (fr' := [(h0, .inr (7, [.ref b1, .ref b2, .null, .null, .null, .null, .null, .null, .null, .int 0, .int 0, .int 0, .int 0]))]) C hK inlX7 tyX7 tyX7_ok nmX7 0 rfl rfl 1 (by decide) m_202 (fun _ h9 => h9) rfl hin rfl (by decide +kernel) rfl rfl (Nat.le_of_ble_eq_true rfl) dX7_init_16 rfl rfl ?_
  refine gq_aln C 0 dX7_init_19 rfl rfl rfl ?_
  refine gq_bi C dX7_init_20 (by decide +kernel) rfl ?_
  refine k_newa (gc' := (fun _ => True)) (N' := 30) (g := 38) (x := .inl (fun _ => 0)) C hK hA (atype := .int) m_119 rfl rfl (xa_zI 30) (by decide +kernel) (by decide +kernel) (by decide +kernel) rfl ⟨_, rfl⟩ (helz (by decide +kernel)) (fun _ _ => trivial) (Nat.le_of_ble_eq_true rfl) (Nat.le_of_ble_eq_true rfl) dX7_init_22 rfl (fun b3 => ?_)
  refine k_putF (C0 := RX7) (T0 := TX7) (N := 13) (ty := (tyX7 2)) (fr' := [(h0, .inr (7, [.ref b1, .ref b2, .ref b3, .null, .null, .null, .null, .null, .null, .int 0, .int 0, .int 0, .int 0]))]) C hK inlX7 tyX7 tyX7_ok nmX7 0 rfl rfl 2 (by decide) m_203 (fun _ h9 => h9) rfl hin rfl (by decide +kernel) rfl rfl (Nat.le_of_ble_eq_true rfl) dX7_init_24 rfl rfl ?_
  refine gq_aln C 0 dX7_init_27 rfl rfl rfl ?_
  refine gq_bi C dX7_init_28 (by decide +kernel) rfl ?_
  refine k_newa (gc' := (fun _ => True)) (N' := 30) (g := 39) (x := .inl (fun _ => 0)) C hK hA (atype := .int) m_119 rfl rfl (xa_zI 30) (by decide +kernel) (by decide +kernel) (by decide +kernel) rfl ⟨_, rfl⟩ (helz (by decide +kernel)) (fun _ _ => trivial) (Nat.le_of_ble_eq_true rfl) (Nat.le_of_ble_eq_true rfl) dX7_init_30 rfl (fun b4 => ?_)
  refine k_putF (C0 := RX7) (T0 := TX7) (N := 13) (ty := (tyX7 3)) (fr' := [(h0, .inr (7, [.ref b1, .ref b2, .ref b3, .ref b4, .null, .null, .null, .null, .null, .int 0, .int 0, .int 0, .int 0]))]) C hK inlX7 tyX7 tyX7_ok nmX7 0 rfl rfl 3 (by decide) m_204 (fun _ h9 => h9) rfl hin rfl (by decide +kernel) rfl rfl (Nat.le_of_ble_eq_true rfl) dX7_init_32 rfl rfl ?_
  refine gq_aln C 0 dX7_init_35 rfl rfl rfl ?_
  refine gq_bi C dX7_init_36 (by decide +kernel) rfl ?_
  refine k_newa (gc' := (fun _ => True)) (N' := 30) (g := 40) (x := .inl (fun _ => 0)) C hK hA (atype := .int) m_119 rfl rfl (xa_zI 30) (by decide +kernel) (by decide +kernel) (by decide +kernel) rfl ⟨_, rfl⟩ (helz (by decide +kernel)) (fun _ _ => trivial) (Nat.le_of_ble_eq_true rfl) (Nat.le_of_ble_eq_true rfl) dX7_init_38 rfl (fun b5 => ?_)
  refine k_putF (C0 := RX7) (T0 := TX7) (N := 13) (ty := (tyX7 4)) (fr' := [(h0, .inr (7, [.ref b1, .ref b2, .ref b3, .ref b4, .ref b5, .null, .null, .null, .null, .int 0, .int 0, .int 0, .int 0]))]) C hK inlX7 tyX7 tyX7_ok nmX7 0 rfl rfl 4 (by decide) m_205 (fun _ h9 => h9) rfl hin rfl (by decide +kernel) rfl rfl (Nat.le_of_ble_eq_true rfl) dX7_init_40 rfl rfl ?_
  refine gq_aln C 0 dX7_init_43 rfl rfl rfl ?_
  refine gq_ic C dX7_init_44 rfl ?_
  refine k_newa (gc' := (fun _ => True)) (N' := 5) (g := 41) (x := .inl (fun _ => 0)) C hK hA (atype := .int) m_119 rfl rfl (xa_zI 5) (by decide +kernel) (by decide +kernel) (by decide +kernel) rfl ⟨_, rfl⟩ (helz (by decide +kernel)) (fun _ _ => trivial) (Nat.le_of_ble_eq_true rfl) (Nat.le_of_ble_eq_true rfl) dX7_init_45 rfl (fun b6 => ?_)
  refine k_putF (C0 := RX7) (T0 := TX7) (N := 13) (ty := (tyX7 5)) (fr' := [(h0, .inr (7, [.ref b1, .ref b2, .ref b3, .ref b4, .ref b5, .ref b6, .null, .null, .null, .int 0, .int 0, .int 0, .int 0]))]) C hK inlX7 tyX7 tyX7_ok nmX7 0 rfl rfl 5 (by decide) m_206 (fun _ h9 => h9) rfl hin rfl (by decide +kernel) rfl rfl (Nat.le_of_ble_eq_true rfl) dX7_init_47 rfl rfl ?_
  refine gq_aln C 0 dX7_init_50 rfl rfl rfl ?_
  refine gq_ic C dX7_init_51 rfl ?_
  refine k_newa (gc' := (fun _ => True)) (N' := 5) (g := 42) (x := .inl (fun _ => 0)) C hK hA (atype := .int) m_119 rfl rfl (xa_zI 5) (by decide +kernel) (by decide +kernel) (by decide +kernel) rfl ⟨_, rfl⟩ (helz (by decide +kernel)) (fun _ _ => trivial) (Nat.le_of_ble_eq_true rfl) (Nat.le_of_ble_eq_true rfl) dX7_init_52 rfl (fun b7 => ?_)
  refine k_putF (C0 := RX7) (T0 := TX7) (N := 13) (ty := (tyX7 6)) (fr' := [(h0, .inr (7, [.ref b1, .ref b2, .ref b3, .ref b4, .ref b5, .ref b6, .ref b7, .null, .null, .int 0, .int 0, .int 0, .int 0]))]) C hK inlX7 tyX7 tyX7_ok nmX7 0 rfl rfl 6 (by decide) m_207 (fun _ h9 => h9) rfl hin rfl (by decide +kernel) rfl rfl (Nat.le_of_ble_eq_true rfl) dX7_init_54 rfl rfl ?_
  refine gq_aln C 0 dX7_init_57 rfl rfl rfl ?_
  refine gq_bi C dX7_init_58 (by decide +kernel) rfl ?_
  refine k_newa (gc' := (fun _ => True)) (N' := 25) (g := 43) (x := .inl (fun _ => 0)) C hK hA (atype := .int) m_119 rfl rfl (xa_zI 25) (by decide +kernel) (by decide +kernel) (by decide +kernel) rfl ⟨_, rfl⟩ (helz (by decide +kernel)) (fun _ _ => trivial) (Nat.le_of_ble_eq_true rfl) (Nat.le_of_ble_eq_true rfl) dX7_init_60 rfl (fun b8 => ?_)
  refine k_putF (C0 := RX7) (T0 := TX7) (N := 13) (ty := (tyX7 7)) (fr' := [(h0, .inr (7, [.ref b1, .ref b2, .ref b3, .ref b4, .ref b5, .ref b6, .ref b7, .ref b8, .null, .int 0, .int 0, .int 0, .int 0]))]) C hK inlX7 tyX7 tyX7_ok nmX7 0 rfl rfl 7 (by decide) m_208 (fun _ h9 => h9) rfl hin rfl (by decide +kernel) rfl rfl (Nat.le_of_ble_eq_true rfl) dX7_init_62 rfl rfl ?_
  refine gq_aln C 0 dX7_init_65 rfl rfl rfl ?_
  refine k_new (C0 := RX1) (T0 := TX1) (N := 2) (ci := 1) C hK hA inlX1 tyX1 tyX1_ok m_209 m_37 m_38 rfl dfX1 (Nat.le_of_ble_eq_true rfl) (Nat.le_of_ble_eq_true rfl) dX7_init_66 rfl (fun b9 => ?_)
  refine gq_st (ws' := kP TXZ cy D _ _ (fun _ => True) [(h0, .inr (7, [.ref b1, .ref b2, .ref b3, .ref b4, .ref b5, .ref b6, .ref b7, .ref b8, .null, .int 0, .int 0, .int 0, .int 0])), (b9, .inr (1, [.null, .int 0]))] ([] ++ [(b1, 36)] ++ [(b2, 37)] ++ [(b3, 38)] ++ [(b4, 39)] ++ [(b5, 40)] ++ [(b6, 41)] ++ [(b7, 42)] ++ [(b8, 43)])) (fun _ _ h => h) ?_
  refine gq_dup C dX7_init_69 rfl rfl ?_
  refine gq_ic C dX7_init_70 rfl ?_
  refine k_init (gc' := fun _ => True) (fr := [(h0, .inr (7, [.ref b1, .ref b2, .ref b3, .ref b4, .ref b5, .ref b6, .ref b7, .ref b8, .null, .int 0, .int 0, .int 0, .int 0]))]) (As := [zv 5]) (rest := [.ref b9, .ref h0]) C hE hEs rfl hA (kc_X1_5 hE hX) (fun _ _ _ _ => trivial) (cwI 1 C.2.2.2.1 (gdI m_133) rfl rfl rfl (C.2.2.2.1 _ m_38) (C.2.2.2.1 _ m_211) (C.2.2.2.1 _ m_132) rfl (by decide +kernel) ⟨Nat.le_of_ble_eq_true rfl, Nat.le_of_ble_eq_true rfl⟩) rfl rfl (Nat.le_of_ble_eq_true rfl) dX7_init_71 ⟨(Nat.le_of_ble_eq_true rfl), (Nat.le_of_ble_eq_true rfl)⟩ rfl ?_
  refine k_putF (C0 := RX7) (T0 := TX7) (N := 13) (ty := (tyX7 8)) (fr' := [(h0, .inr (7, [.ref b1, .ref b2, .ref b3, .ref b4, .ref b5, .ref b6, .ref b7, .ref b8, .ref b9, .int 0, .int 0, .int 0, .int 0]))]) C hK inlX7 tyX7 tyX7_ok nmX7 0 rfl rfl 8 (by decide) m_210 (fun _ h9 => h9) rfl hin rfl (by decide +kernel) rfl rfl (Nat.le_of_ble_eq_true rfl) dX7_init_74 rfl rfl ?_
  refine gq_wd (cl' := 10) (sl' := 167) (Nat.le_of_ble_eq_true rfl) (Nat.le_of_ble_eq_true rfl) ?_
  exact k_ret (gf := [6]) C hlocks hr dX7_init_77 rfl rfl rfl rfl rfl rfl (fun _ _ => trivial) (fun gs ad hq => ⟨⟨_, rfl, rfl, oks_ok (show oks _ _ _ [.ref b1, .ref b2, .ref b3, .ref b4, .ref b5, .ref b6, .ref b7, .ref b8, .ref b9, .int 0, .int 0, .int 0, .int 0] from ⟨(rt_ok (hq (b1, 36) (List.mem_append_left _ (List.mem_append_left _ (List.mem_append_left _ (List.mem_append_left _ (List.mem_append_left _ (List.mem_append_left _ (List.mem_append_left _ (List.mem_append_left _ (List.mem_append_right _ (List.mem_singleton.mpr rfl))))))))))) (by decide)), (rt_ok (hq (b2, 37) (List.mem_append_left _ (List.mem_append_left _ (List.mem_append_left _ (List.mem_append_left _ (List.mem_append_left _ (List.mem_append_left _ (List.mem_append_left _ (List.mem_append_right _ (List.mem_singleton.mpr rfl)))))))))) (by decide)), (rt_ok (hq (b3, 38) (List.mem_append_left _ (List.mem_append_left _ (List.mem_append_left _ (List.mem_append_left _ (List.mem_append_left _ (List.mem_append_left _ (List.mem_append_right _ (List.mem_singleton.mpr rfl))))))))) (by decide)), (rt_ok (hq (b4, 39) (List.mem_append_left _ (List.mem_append_left _ (List.mem_append_left _ (List.mem_append_left _ (List.mem_append_left _ (List.mem_append_right _ (List.mem_singleton.mpr rfl)))))))) (by decide)), (rt_ok (hq (b5, 40) (List.mem_append_left _ (List.mem_append_left _ (List.mem_append_left _ (List.mem_append_left _ (List.mem_append_right _ (List.mem_singleton.mpr rfl))))))) (by decide)), (rt_ok (hq (b6, 41) (List.mem_append_left _ (List.mem_append_left _ (List.mem_append_left _ (List.mem_append_right _ (List.mem_singleton.mpr rfl)))))) (by decide)), (rt_ok (hq (b7, 42) (List.mem_append_left _ (List.mem_append_left _ (List.mem_append_right _ (List.mem_singleton.mpr rfl))))) (by decide)), (rt_ok (hq (b8, 43) (List.mem_append_left _ (List.mem_append_right _ (List.mem_singleton.mpr rfl)))) (by decide)), (rt_ok (hq (b9, 13) (List.mem_append_right _ (List.mem_singleton.mpr rfl))) (by decide)), ⟨_, rfl, by decide +kernel, by decide +kernel⟩, ⟨_, rfl, by decide +kernel, by decide +kernel⟩, ⟨_, rfl, by decide +kernel, by decide +kernel⟩, ⟨_, rfl, by decide +kernel, by decide +kernel⟩, trivial⟩)⟩, trivial⟩)
set_option maxRecDepth 100000 in
set_option maxHeartbeats 4000000 in
theorem kc_X10 {l : Launch} {E : (Nat → Prop) → State → Prop} {D : va_G} {cy : Nat → ClassId} (hE : fx_env E D classes (tys cy) nestW) (hX : ∀ A U, E A U → va_AO RX1 U ∧ va_AO RX8 U) : KC l yX10_init cX10_init 2 ({ frames := 2, cells := 22, slots := 1351, locals := 37 }) 22 1351 E TXZ cy D (fun _ => True) 10 [.null, .null, .null, .null, .null, .null, .null, .int 0, .int 0, .int 0, .int 0, .int 0] [] 8 := by
  refine k_of (gc := (fun _ => True)) trivial (by decide +kernel) rfl (fun h0 => Nat.le_of_ble_eq_true rfl) ?_
  intro h0 p e s m below meth c hlocks hr hin C hEs hA
  have hK := (hE.1 _ _ hEs).1
  refine gq_pick (lv' := [(0, .ref h0)]) [0] rfl ?_
  refine gq_aln C 0 dX10_init_0 rfl rfl rfl ?_
  refine k_obj C m_117 m_10 m_11 dX10_init_1 (Nat.le_of_ble_eq_true rfl) (Nat.le_of_ble_eq_true rfl) rfl ?_
  refine gq_aln C 0 dX10_init_4 rfl rfl rfl ?_
  refine gq_bi C dX10_init_5 (by decide +kernel) rfl ?_
  refine k_newa (gc' := (fun _ => True)) (N' := 9) (g := 21) (x := .inr (.inl (fun _ => 0))) C hK hA (atype := .long) m_63 rfl rfl (xa_zJ 9) (by decide +kernel) (by decide +kernel) (by decide +kernel) rfl ⟨_, rfl⟩ (helzL (by decide +kernel)) (fun _ _ => trivial) (Nat.le_of_ble_eq_true rfl) (Nat.le_of_ble_eq_true rfl) dX10_init_7 rfl (fun b1 => ?_)
  refine k_putF (C0 := RX10) (T0 := TX10) (N := 12) (ty := (tyX10 0)) (fr' := [(h0, .inr (10, [.ref b1, .null, .null, .null, .null, .null, .null, .int 0, .int 0, .int 0, .int 0, .int 0]))]) C hK inlX10 tyX10 tyX10_ok nmX10 0 rfl rfl 0 (by decide) m_118 (fun _ h9 => h9) rfl hin rfl (by decide +kernel) rfl rfl (Nat.le_of_ble_eq_true rfl) dX10_init_9 rfl rfl ?_
  refine gq_aln C 0 dX10_init_12 rfl rfl rfl ?_
  refine gq_bi C dX10_init_13 (by decide +kernel) rfl ?_
  refine k_newa (gc' := (fun _ => True)) (N' := 9) (g := 22) (x := .inl (fun _ => 0)) C hK hA (atype := .int) m_119 rfl rfl (xa_zI 9) (by decide +kernel) (by decide +kernel) (by decide +kernel) rfl ⟨_, rfl⟩ (helz (by decide +kernel)) (fun _ _ => trivial) (Nat.le_of_ble_eq_true rfl) (Nat.le_of_ble_eq_true rfl) dX10_init_15 rfl (fun b2 => ?_)
  refine k_putF (C0 := RX10) (T0 := TX10) (N := 12) (ty := (tyX10 1)) (fr' := [(h0, .inr (10, [.ref b1, .ref b2, .null, .null, .null, .null, .null, .int 0, .int 0, .int 0, .int 0, .int 0]))]) C hK inlX10 tyX10 tyX10_ok nmX10 0 rfl rfl 1 (by decide) m_120 (fun _ h9 => h9) rfl hin rfl (by decide +kernel) rfl rfl (Nat.le_of_ble_eq_true rfl) dX10_init_17 rfl rfl ?_
  refine gq_aln C 0 dX10_init_20 rfl rfl rfl ?_
  refine gq_bi C dX10_init_21 (by decide +kernel) rfl ?_
  refine k_newa (gc' := (fun _ => True)) (N' := 81) (g := 23) (x := .inl (fun _ => 0)) C hK hA (atype := .int) m_119 rfl rfl (xa_zI 81) (by decide +kernel) (by decide +kernel) (by decide +kernel) rfl ⟨_, rfl⟩ (helz (by decide +kernel)) (fun _ _ => trivial) (Nat.le_of_ble_eq_true rfl) (Nat.le_of_ble_eq_true rfl) dX10_init_23 rfl (fun b3 => ?_)
  refine k_putF (C0 := RX10) (T0 := TX10) (N := 12) (ty := (tyX10 2)) (fr' := [(h0, .inr (10, [.ref b1, .ref b2, .ref b3, .null, .null, .null, .null, .int 0, .int 0, .int 0, .int 0, .int 0]))]) C hK inlX10 tyX10 tyX10_ok nmX10 0 rfl rfl 2 (by decide) m_121 (fun _ h9 => h9) rfl hin rfl (by decide +kernel) rfl rfl (Nat.le_of_ble_eq_true rfl) dX10_init_25 rfl rfl ?_
  refine gq_aln C 0 dX10_init_28 rfl rfl rfl ?_
  refine gq_bi C dX10_init_29 (by decide +kernel) rfl ?_
  refine k_newa (gc' := (fun _ => True)) (N' := 81) (g := 24) (x := .inl (fun _ => 0)) C hK hA (atype := .boolean) m_122 rfl rfl (xa_zZ 81) (by decide +kernel) (by decide +kernel) (by decide +kernel) rfl ⟨_, rfl⟩ (helz (by decide +kernel)) (fun _ _ => trivial) (Nat.le_of_ble_eq_true rfl) (Nat.le_of_ble_eq_true rfl) dX10_init_31 rfl (fun b4 => ?_)
  refine k_putF (C0 := RX10) (T0 := TX10) (N := 12) (ty := (tyX10 3)) (fr' := [(h0, .inr (10, [.ref b1, .ref b2, .ref b3, .ref b4, .null, .null, .null, .int 0, .int 0, .int 0, .int 0, .int 0]))]) C hK inlX10 tyX10 tyX10_ok nmX10 0 rfl rfl 3 (by decide) m_123 (fun _ h9 => h9) rfl hin rfl (by decide +kernel) rfl rfl (Nat.le_of_ble_eq_true rfl) dX10_init_33 rfl rfl ?_
  refine gq_aln C 0 dX10_init_36 rfl rfl rfl ?_
  refine k_new (C0 := RX1) (T0 := TX1) (N := 2) (ci := 1) C hK hA inlX1 tyX1 tyX1_ok m_124 m_37 m_38 rfl dfX1 (Nat.le_of_ble_eq_true rfl) (Nat.le_of_ble_eq_true rfl) dX10_init_37 rfl (fun b5 => ?_)
  refine gq_st (ws' := kP TXZ cy D _ _ (fun _ => True) [(h0, .inr (10, [.ref b1, .ref b2, .ref b3, .ref b4, .null, .null, .null, .int 0, .int 0, .int 0, .int 0, .int 0])), (b5, .inr (1, [.null, .int 0]))] ([] ++ [(b1, 21)] ++ [(b2, 22)] ++ [(b3, 23)] ++ [(b4, 24)])) (fun _ _ h => h) ?_
  refine gq_dup C dX10_init_40 rfl rfl ?_
  refine gq_bi C dX10_init_41 (by decide +kernel) rfl ?_
  refine k_init (gc' := fun _ => True) (fr := [(h0, .inr (10, [.ref b1, .ref b2, .ref b3, .ref b4, .null, .null, .null, .int 0, .int 0, .int 0, .int 0, .int 0]))]) (As := [zv 12]) (rest := [.ref b5, .ref h0]) C hE hEs rfl hA (kc_X1_12 hE hX) (fun _ _ _ _ => trivial) (cwI 1 C.2.2.2.1 (gdI m_133) rfl rfl rfl (C.2.2.2.1 _ m_38) (C.2.2.2.1 _ m_131) (C.2.2.2.1 _ m_132) rfl (by decide +kernel) ⟨Nat.le_of_ble_eq_true rfl, Nat.le_of_ble_eq_true rfl⟩) rfl rfl (Nat.le_of_ble_eq_true rfl) dX10_init_43 ⟨(Nat.le_of_ble_eq_true rfl), (Nat.le_of_ble_eq_true rfl)⟩ rfl ?_
  refine k_putF (C0 := RX10) (T0 := TX10) (N := 12) (ty := (tyX10 4)) (fr' := [(h0, .inr (10, [.ref b1, .ref b2, .ref b3, .ref b4, .ref b5, .null, .null, .int 0, .int 0, .int 0, .int 0, .int 0]))]) C hK inlX10 tyX10 tyX10_ok nmX10 0 rfl rfl 4 (by decide) m_125 (fun _ h9 => h9) rfl hin rfl (by decide +kernel) rfl rfl (Nat.le_of_ble_eq_true rfl) dX10_init_46 rfl rfl ?_
  refine gq_aln C 0 dX10_init_49 rfl rfl rfl ?_
  refine gq_ic C dX10_init_50 rfl ?_
  refine k_newq (t0 := 4) (N' := 5) C hK hA m_124 (hX _ _ hEs).1 rfl (by decide +kernel) (by decide +kernel) (by decide +kernel) (Nat.le_of_ble_eq_true rfl) (Nat.le_of_ble_eq_true rfl) dX10_init_51 rfl (fun b6 => ?_)
  refine gq_st (ws' := kP TXZ cy D _ _ (fun _ => True) [(h0, .inr (10, [.ref b1, .ref b2, .ref b3, .ref b4, .ref b5, .null, .null, .int 0, .int 0, .int 0, .int 0, .int 0])), (b6, .inl (cy 4, 5, .inr (.inr (.inr (.inr (fun _ => none))))))] ([] ++ [(b1, 21)] ++ [(b2, 22)] ++ [(b3, 23)] ++ [(b4, 24)] ++ [(b5, 11)])) (fun _ _ h => h) ?_
  refine k_putF (C0 := RX10) (T0 := TX10) (N := 12) (ty := (tyX10 5)) (fr' := [(h0, .inr (10, [.ref b1, .ref b2, .ref b3, .ref b4, .ref b5, .ref b6, .null, .int 0, .int 0, .int 0, .int 0, .int 0])), (b6, .inl (cy 4, 5, .inr (.inr (.inr (.inr (fun _ => none))))))]) C hK inlX10 tyX10 tyX10_ok nmX10 0 rfl rfl 5 (by decide) m_126 (fun _ h9 => h9) rfl hin rfl (by decide +kernel) rfl rfl (Nat.le_of_ble_eq_true rfl) dX10_init_54 rfl rfl ?_
  refine gq_ic C dX10_init_57 rfl ?_
  refine gq_isn (lv' := [(1, zv 0), (0, .ref h0)]) C dX10_init_58 rfl (by decide) rfl rfl ?_
  have loop1 : ∀ (q1 i1 : Nat) (f1 : Nat → Option Nat) (rs1 : List (Nat × Nat)), i1 + q1 = 5 → (∀ r ∈ ([] ++ [(b1, 21)] ++ [(b2, 22)] ++ [(b3, 23)] ++ [(b4, 24)] ++ [(b5, 11)] : List (Nat × Nat)), r ∈ rs1) → (∀ j, j < i1 → ∃ a, f1 j = some a ∧ (a, 64) ∈ rs1) → GW p l e ({ frames := 2, cells := 22, slots := 1351, locals := 37 }) s m (([.ref h0] : List Value).toArray) below meth c (MQ below (kQ TXZ cy D (fun _ => True) h0 8 s.heap.size [(h0, .inr (10, [.null, .null, .null, .null, .null, .null, .null, .int 0, .int 0, .int 0, .int 0, .int 0]))]) (([.ref h0] : List Value).toArray) s 22 1351 (va_A [(h0, .inr (10, [.null, .null, .null, .null, .null, .null, .null, .int 0, .int 0, .int 0, .int 0, .int 0]))] s.heap.size)) cX10_init 2 (7 + 2 * i1) (199 + 10 * i1) 59 [(0, .ref h0), (1, zv (i1 : Int))] [] (kP TXZ cy D (va_A [(h0, .inr (10, [.null, .null, .null, .null, .null, .null, .null, .int 0, .int 0, .int 0, .int 0, .int 0]))] s.heap.size) s.heap (fun _ => True) [(h0, .inr (10, [.ref b1, .ref b2, .ref b3, .ref b4, .ref b5, .ref b6, .null, .int 0, .int 0, .int 0, .int 0, .int 0])), (b6, .inl (cy 4, 5, .inr (.inr (.inr (.inr f1)))))] rs1) := by
    intro q1
    induction q1 with
    | succ q1 ih1 =>
      intro i1 f1 rs1 hi1 hrs1 hf1
      refine gq_iln C 1 dX10_init_59 rfl rfl rfl ?_
      refine gq_aln C 0 dX10_init_60 rfl rfl rfl ?_
      refine k_get (C0 := RX10) (T0 := TX10) (N := 12) C hK inlX10 0 rfl rfl 5 (by decide) m_126 (fun _ h9 => h9) rfl dX10_init_61 rfl ?_
      refine k_alen C hK 1 4 rfl rfl dX10_init_64 rfl ?_
      refine gq_cmp C 89 dX10_init_65 (by decide) ⟨by omega, by omega⟩ ⟨by omega, by omega⟩ rfl (fun h => absurd (show (5 : Int) ≤ (i1 : Int) from h) (by omega)) (fun _ => ?_)
      refine gq_aln C 0 dX10_init_68 rfl rfl rfl ?_
      refine k_get (C0 := RX10) (T0 := TX10) (N := 12) C hK inlX10 0 rfl rfl 5 (by decide) m_126 (fun _ h9 => h9) rfl dX10_init_69 rfl ?_
      refine gq_iln C 1 dX10_init_72 rfl rfl rfl ?_
      refine k_new (C0 := RX1) (T0 := TX1) (N := 2) (ci := 1) C hK hA inlX1 tyX1 tyX1_ok m_124 m_37 m_38 rfl dfX1 (by show 7 + 2 * i1 + 1 ≤ 22; omega) (by show 199 + 10 * i1 + 2 ≤ 1351; omega) dX10_init_73 rfl (fun b7 => ?_)
      refine gq_st (ws' := kP TXZ cy D _ _ (fun _ => True) [(h0, .inr (10, [.ref b1, .ref b2, .ref b3, .ref b4, .ref b5, .ref b6, .null, .int 0, .int 0, .int 0, .int 0, .int 0])), (b6, .inl (cy 4, 5, .inr (.inr (.inr (.inr f1))))), (b7, .inr (1, [.null, .int 0]))] (rs1)) (fun _ _ h => h) ?_
      refine gq_dup C dX10_init_76 rfl rfl ?_
      refine gq_bi C dX10_init_77 (by decide +kernel) rfl ?_
      refine k_init (gc' := fun _ => True) (fr := [(h0, .inr (10, [.ref b1, .ref b2, .ref b3, .ref b4, .ref b5, .ref b6, .null, .int 0, .int 0, .int 0, .int 0, .int 0])), (b6, .inl (cy 4, 5, .inr (.inr (.inr (.inr f1)))))]) (As := [zv 8]) (rest := [.ref b7, zv (i1 : Int), .ref b6]) C hE hEs rfl hA (kc_X1_8 hE hX) (fun _ _ _ _ => trivial) (cwI 1 C.2.2.2.1 (gdI m_133) rfl rfl rfl (C.2.2.2.1 _ m_38) (C.2.2.2.1 _ m_131) (C.2.2.2.1 _ m_132) rfl (by decide +kernel) ⟨Nat.le_of_ble_eq_true rfl, Nat.le_of_ble_eq_true rfl⟩) rfl rfl (Nat.le_of_ble_eq_true rfl) dX10_init_79 ⟨(by show 7 + 2 * i1 + 1 + 1 ≤ 22; omega), (by show 199 + 10 * i1 + 2 + 8 ≤ 1351; omega)⟩ rfl ?_
      refine k_aast (fr' := [(h0, .inr (10, [.ref b1, .ref b2, .ref b3, .ref b4, .ref b5, .ref b6, .null, .int 0, .int 0, .int 0, .int 0, .int 0])), (b6, .inl (cy 4, 5, .inr (.inr (.inr (.inr (va_up f1 (Int.toNat (i1 : Int)) (some b7)))))))]) (g := 64) (ci := 1) (n := 5) C hK 1 4 rfl rfl (List.mem_append_right _ (List.mem_singleton.mpr rfl)) rfl rfl (by omega) (by omega) (by decide) dX10_init_82 rfl rfl ?_
      refine gq_inc (lv' := [(1, zv ((i1 : Int) + 1)), (0, .ref h0)]) C 1 dX10_init_83 rfl (by decide) rfl rfl ?_
      refine gq_goto C 59 dX10_init_86 (by decide) ?_
      refine gq_pick (lv' := [(0, .ref h0), (1, zv ((i1 + 1 : Nat) : Int))]) [1, 0] rfl ?_
      refine gq_wd (cl' := 7 + 2 * (i1 + 1)) (sl' := 199 + 10 * (i1 + 1)) (by omega) (by omega) ?_
      refine ih1 (i1 + 1) _ _ (by omega) (fun r hr => List.mem_append_left _ (hrs1 r hr)) (fun j hj => ?_)
      by_cases e : j = i1
      · exact ⟨b7, by simp [va_up, e], List.mem_append_right _ (List.mem_singleton.mpr rfl)⟩
      · obtain ⟨a, e1, e2⟩ := hf1 j (by omega)
        exact ⟨a, by simp [va_up, e, e1], List.mem_append_left _ e2⟩
    | zero =>
      intro i1 f1 rs1 hi1 hrs1 hf1
      obtain rfl : i1 = 5 := by omega
      refine gq_wd (cl' := 17) (sl' := 249) (Nat.le_of_ble_eq_true rfl) (Nat.le_of_ble_eq_true rfl) ?_
      refine gq_pick (lv' := [(0, .ref h0), (1, zv 5)]) [0, 1] rfl ?_
      refine gq_iln C 1 dX10_init_59 rfl rfl rfl ?_
      refine gq_aln C 0 dX10_init_60 rfl rfl rfl ?_
      refine k_get (C0 := RX10) (T0 := TX10) (N := 12) C hK inlX10 0 rfl rfl 5 (by decide) m_126 (fun _ h9 => h9) rfl dX10_init_61 rfl ?_
      refine k_alen C hK 1 4 rfl rfl dX10_init_64 rfl ?_
      refine gq_cmp C 89 dX10_init_65 (by decide) ⟨by omega, by omega⟩ ⟨by omega, by omega⟩ rfl (fun _ => ?_) (fun h => absurd (show (5 : Int) < 5 from h) (by omega))
      refine k_up (g := 25) (b := b6) (gc' := fun _ => True) (fr := [(h0, .inr (10, [.ref b1, .ref b2, .ref b3, .ref b4, .ref b5, .ref b6, .null, .int 0, .int 0, .int 0, .int 0, .int 0]))]) rfl (fun _ _ => trivial) (fun gs ad hq => ok_row (by decide) (by decide) hq hf1) ?_
      refine gq_st (ws' := kP TXZ cy D _ _ (fun _ => True) [(h0, .inr (10, [.ref b1, .ref b2, .ref b3, .ref b4, .ref b5, .ref b6, .null, .int 0, .int 0, .int 0, .int 0, .int 0]))] (rs1 ++ [(b6, 25)])) (fun _ _ h => h) ?_
      refine gq_aln C 0 dX10_init_89 rfl rfl rfl ?_
      refine k_new (C0 := RX0) (T0 := TX0) (N := 8) (ci := 0) C hK hA inlX0 tyX0 tyX0_ok m_127 m_128 m_129 rfl dfX0 (Nat.le_of_ble_eq_true rfl) (Nat.le_of_ble_eq_true rfl) dX10_init_90 rfl (fun b8 => ?_)
      refine gq_st (ws' := kP TXZ cy D _ _ (fun _ => True) [(h0, .inr (10, [.ref b1, .ref b2, .ref b3, .ref b4, .ref b5, .ref b6, .null, .int 0, .int 0, .int 0, .int 0, .int 0])), (b8, .inr (0, [.null, .null, .null, .null, .int 0, .int 0, .int 0, .int 0]))] (rs1 ++ [(b6, 25)])) (fun _ _ h => h) ?_
      refine gq_dup C dX10_init_93 rfl rfl ?_
      refine k_init (gc' := fun _ => True) (fr := [(h0, .inr (10, [.ref b1, .ref b2, .ref b3, .ref b4, .ref b5, .ref b6, .null, .int 0, .int 0, .int 0, .int 0, .int 0]))]) (As := []) (rest := [.ref b8, .ref h0]) C hE hEs rfl hA (kc_X0 hE hX) (fun _ _ _ _ => trivial) (cwI 0 C.2.2.2.1 (gdI m_143) rfl rfl rfl (C.2.2.2.1 _ m_129) (C.2.2.2.1 _ m_141) (C.2.2.2.1 _ m_142) rfl (by decide +kernel) ⟨Nat.le_of_ble_eq_true rfl, Nat.le_of_ble_eq_true rfl⟩) rfl rfl (Nat.le_of_ble_eq_true rfl) dX10_init_94 ⟨(Nat.le_of_ble_eq_true rfl), (Nat.le_of_ble_eq_true rfl)⟩ rfl ?_
      refine k_putF (C0 := RX10) (T0 := TX10) (N := 12) (ty := (tyX10 6)) (fr' := [(h0, .inr (10, [.ref b1, .ref b2, .ref b3, .ref b4, .ref b5, .ref b6, .ref b8, .int 0, .int 0, .int 0, .int 0, .int 0]))]) C hK inlX10 tyX10 tyX10_ok nmX10 0 rfl rfl 6 (by decide) m_130 (fun _ h9 => h9) rfl hin rfl (by decide +kernel) rfl rfl (Nat.le_of_ble_eq_true rfl) dX10_init_97 rfl rfl ?_
      refine gq_wd (cl' := 22) (sl' := 1351) (Nat.le_of_ble_eq_true rfl) (Nat.le_of_ble_eq_true rfl) ?_
      exact k_ret (gf := [8]) C hlocks hr dX10_init_100 rfl rfl rfl rfl rfl rfl (fun _ _ => trivial) (fun gs ad hq => ⟨⟨_, rfl, rfl, oks_ok (show oks _ _ _ [.ref b1, .ref b2, .ref b3, .ref b4, .ref b5, .ref b6, .ref b8, .int 0, .int 0, .int 0, .int 0, .int 0] from ⟨(rt_ok (hq (b1, 21) (List.mem_append_left _ (List.mem_append_left _ ((hrs1 _ (List.mem_append_left _ (List.mem_append_left _ (List.mem_append_left _ (List.mem_append_left _ (List.mem_append_right _ (List.mem_singleton.mpr rfl))))))))))) (by decide)), (rt_ok (hq (b2, 22) (List.mem_append_left _ (List.mem_append_left _ ((hrs1 _ (List.mem_append_left _ (List.mem_append_left _ (List.mem_append_left _ (List.mem_append_right _ (List.mem_singleton.mpr rfl)))))))))) (by decide)), (rt_ok (hq (b3, 23) (List.mem_append_left _ (List.mem_append_left _ ((hrs1 _ (List.mem_append_left _ (List.mem_append_left _ (List.mem_append_right _ (List.mem_singleton.mpr rfl))))))))) (by decide)), (rt_ok (hq (b4, 24) (List.mem_append_left _ (List.mem_append_left _ ((hrs1 _ (List.mem_append_left _ (List.mem_append_right _ (List.mem_singleton.mpr rfl)))))))) (by decide)), (rt_ok (hq (b5, 11) (List.mem_append_left _ (List.mem_append_left _ ((hrs1 _ (List.mem_append_right _ (List.mem_singleton.mpr rfl))))))) (by decide)), (rt_ok (hq (b6, 25) (List.mem_append_left _ (List.mem_append_right _ (List.mem_singleton.mpr rfl)))) (by decide)), (rt_ok (hq (b8, 9) (List.mem_append_right _ (List.mem_singleton.mpr rfl))) (by decide)), ⟨_, rfl, by decide +kernel, by decide +kernel⟩, ⟨_, rfl, by decide +kernel, by decide +kernel⟩, ⟨_, rfl, by decide +kernel, by decide +kernel⟩, ⟨_, rfl, by decide +kernel, by decide +kernel⟩, ⟨_, rfl, by decide +kernel, by decide +kernel⟩, trivial⟩)⟩, trivial⟩)
  refine gq_pick (lv' := [(0, .ref h0), (1, zv ((0 : Nat) : Int))]) [1, 0] rfl ?_
  exact loop1 5 0 _ _ rfl (fun r hr => hr) (fun j hj => absurd hj (Nat.not_lt_zero _))
set_option maxRecDepth 100000 in
set_option maxHeartbeats 4000000 in
theorem kc_X5 {l : Launch} {E : (Nat → Prop) → State → Prop} {D : va_G} {cy : Nat → ClassId} (hE : fx_env E D classes (tys cy) nestW) (hX : ∀ A U, E A U → va_AO RX1 U ∧ va_AO RX8 U) : KC l yX5_init cX5_init 2 ({ frames := 3, cells := 141, slots := 829, locals := 57 }) 141 829 E TXZ cy D (fun _ => True) 5 [.null, .null, .null, .null, .null, .int 0, .int 0] [] 2 := by
  refine k_of (gc := (fun _ => True)) trivial (by decide +kernel) rfl (fun h0 => Nat.le_of_ble_eq_true rfl) ?_
  intro h0 p e s m below meth c hlocks hr hin C hEs hA
  have hK := (hE.1 _ _ hEs).1
  refine gq_pick (lv' := [(0, .ref h0)]) [0] rfl ?_
  refine gq_aln C 0 dX5_init_0 rfl rfl rfl ?_
  refine k_obj C m_152 m_10 m_11 dX5_init_1 (Nat.le_of_ble_eq_true rfl) (Nat.le_of_ble_eq_true rfl) rfl ?_
  refine gq_aln C 0 dX5_init_4 rfl rfl rfl ?_
  refine k_new (C0 := RX8) (T0 := TX8) (N := 3) (ci := 8) C hK hA inlX8 tyX8 tyX8_ok m_153 m_154 m_155 rfl dfX8 (Nat.le_of_ble_eq_true rfl) (Nat.le_of_ble_eq_true rfl) dX5_init_5 rfl (fun b1 => ?_)
  refine gq_st (ws' := kP TXZ cy D _ _ (fun _ => True) [(h0, .inr (5, [.null, .null, .null, .null, .null, .int 0, .int 0])), (b1, .inr (8, [.null, .int 0, .int 0]))] ([])) (fun _ _ h => h) ?_
  refine gq_dup C dX5_init_8 rfl rfl ?_
  refine k_init (gc' := fun _ => True) (fr := [(h0, .inr (5, [.null, .null, .null, .null, .null, .int 0, .int 0]))]) (As := []) (rest := [.ref b1, .ref h0]) C hE hEs rfl hA (kc_X8 hE hX) (fun _ _ _ _ => trivial) (cwI 0 C.2.2.2.1 (gdI m_163) rfl rfl rfl (C.2.2.2.1 _ m_155) (C.2.2.2.1 _ m_161) (C.2.2.2.1 _ m_162) rfl (by decide +kernel) ⟨Nat.le_of_ble_eq_true rfl, Nat.le_of_ble_eq_true rfl⟩) rfl rfl (Nat.le_of_ble_eq_true rfl) dX5_init_9 ⟨(Nat.le_of_ble_eq_true rfl), (Nat.le_of_ble_eq_true rfl)⟩ rfl ?_
  refine k_putF (C0 := RX5) (T0 := TX5) (N := 7) (ty := (tyX5 0)) (fr' := [(h0, .inr (5, [.ref b1, .null, .null, .null, .null, .int 0, .int 0]))]) C hK inlX5 tyX5 tyX5_ok nmX5 0 rfl rfl 0 (by decide) m_156 (fun _ h9 => h9) rfl hin rfl (by decide +kernel) rfl rfl (Nat.le_of_ble_eq_true rfl) dX5_init_12 rfl rfl ?_
  refine gq_aln C 0 dX5_init_15 rfl rfl rfl ?_
  refine k_new (C0 := RX8) (T0 := TX8) (N := 3) (ci := 8) C hK hA inlX8 tyX8 tyX8_ok m_153 m_154 m_155 rfl dfX8 (Nat.le_of_ble_eq_true rfl) (Nat.le_of_ble_eq_true rfl) dX5_init_16 rfl (fun b2 => ?_)
  refine gq_st (ws' := kP TXZ cy D _ _ (fun _ => True) [(h0, .inr (5, [.ref b1, .null, .null, .null, .null, .int 0, .int 0])), (b2, .inr (8, [.null, .int 0, .int 0]))] ([] ++ [(b1, 10)])) (fun _ _ h => h) ?_
  refine gq_dup C dX5_init_19 rfl rfl ?_
  refine k_init (gc' := fun _ => True) (fr := [(h0, .inr (5, [.ref b1, .null, .null, .null, .null, .int 0, .int 0]))]) (As := []) (rest := [.ref b2, .ref h0]) C hE hEs rfl hA (kc_X8 hE hX) (fun _ _ _ _ => trivial) (cwI 0 C.2.2.2.1 (gdI m_163) rfl rfl rfl (C.2.2.2.1 _ m_155) (C.2.2.2.1 _ m_161) (C.2.2.2.1 _ m_162) rfl (by decide +kernel) ⟨Nat.le_of_ble_eq_true rfl, Nat.le_of_ble_eq_true rfl⟩) rfl rfl (Nat.le_of_ble_eq_true rfl) dX5_init_20 ⟨(Nat.le_of_ble_eq_true rfl), (Nat.le_of_ble_eq_true rfl)⟩ rfl ?_
  refine k_putF (C0 := RX5) (T0 := TX5) (N := 7) (ty := (tyX5 1)) (fr' := [(h0, .inr (5, [.ref b1, .ref b2, .null, .null, .null, .int 0, .int 0]))]) C hK inlX5 tyX5 tyX5_ok nmX5 0 rfl rfl 1 (by decide) m_157 (fun _ h9 => h9) rfl hin rfl (by decide +kernel) rfl rfl (Nat.le_of_ble_eq_true rfl) dX5_init_23 rfl rfl ?_
  refine gq_aln C 0 dX5_init_26 rfl rfl rfl ?_
  refine gq_bi C dX5_init_27 (by decide +kernel) rfl ?_
  refine k_newq (t0 := 5) (N' := 41) C hK hA m_153 (hX _ _ hEs).2 rfl (by decide +kernel) (by decide +kernel) (by decide +kernel) (Nat.le_of_ble_eq_true rfl) (Nat.le_of_ble_eq_true rfl) dX5_init_29 rfl (fun b3 => ?_)
  refine gq_st (ws' := kP TXZ cy D _ _ (fun _ => True) [(h0, .inr (5, [.ref b1, .ref b2, .null, .null, .null, .int 0, .int 0])), (b3, .inl (cy 5, 41, .inr (.inr (.inr (.inr (fun _ => none))))))] ([] ++ [(b1, 10)] ++ [(b2, 10)])) (fun _ _ h => h) ?_
  refine k_putF (C0 := RX5) (T0 := TX5) (N := 7) (ty := (tyX5 2)) (fr' := [(h0, .inr (5, [.ref b1, .ref b2, .ref b3, .null, .null, .int 0, .int 0])), (b3, .inl (cy 5, 41, .inr (.inr (.inr (.inr (fun _ => none))))))]) C hK inlX5 tyX5 tyX5_ok nmX5 0 rfl rfl 2 (by decide) m_158 (fun _ h9 => h9) rfl hin rfl (by decide +kernel) rfl rfl (Nat.le_of_ble_eq_true rfl) dX5_init_32 rfl rfl ?_
  refine gq_ic C dX5_init_35 rfl ?_
  refine gq_isn (lv' := [(1, zv 0), (0, .ref h0)]) C dX5_init_36 rfl (by decide) rfl rfl ?_
  have loop1 : ∀ (q1 i1 : Nat) (f1 : Nat → Option Nat) (rs1 : List (Nat × Nat)), i1 + q1 = 41 → (∀ r ∈ ([] ++ [(b1, 10)] ++ [(b2, 10)] : List (Nat × Nat)), r ∈ rs1) → (∀ j, j < i1 → ∃ a, f1 j = some a ∧ (a, 10) ∈ rs1) → GW p l e ({ frames := 3, cells := 141, slots := 829, locals := 57 }) s m (([.ref h0] : List Value).toArray) below meth c (MQ below (kQ TXZ cy D (fun _ => True) h0 2 s.heap.size [(h0, .inr (5, [.null, .null, .null, .null, .null, .int 0, .int 0]))]) (([.ref h0] : List Value).toArray) s 141 829 (va_A [(h0, .inr (5, [.null, .null, .null, .null, .null, .int 0, .int 0]))] s.heap.size)) cX5_init 2 (7 + 3 * i1) (75 + 17 * i1) 37 [(0, .ref h0), (1, zv (i1 : Int))] [] (kP TXZ cy D (va_A [(h0, .inr (5, [.null, .null, .null, .null, .null, .int 0, .int 0]))] s.heap.size) s.heap (fun _ => True) [(h0, .inr (5, [.ref b1, .ref b2, .ref b3, .null, .null, .int 0, .int 0])), (b3, .inl (cy 5, 41, .inr (.inr (.inr (.inr f1)))))] rs1) := by
    intro q1
    induction q1 with
    | succ q1 ih1 =>
      intro i1 f1 rs1 hi1 hrs1 hf1
      refine gq_iln C 1 dX5_init_37 rfl rfl rfl ?_
      refine gq_aln C 0 dX5_init_38 rfl rfl rfl ?_
      refine k_get (C0 := RX5) (T0 := TX5) (N := 7) C hK inlX5 0 rfl rfl 2 (by decide) m_158 (fun _ h9 => h9) rfl dX5_init_39 rfl ?_
      refine k_alen C hK 1 5 rfl rfl dX5_init_42 rfl ?_
      refine gq_cmp C 65 dX5_init_43 (by decide) ⟨by omega, by omega⟩ ⟨by omega, by omega⟩ rfl (fun h => absurd (show (41 : Int) ≤ (i1 : Int) from h) (by omega)) (fun _ => ?_)
      refine gq_aln C 0 dX5_init_46 rfl rfl rfl ?_
      refine k_get (C0 := RX5) (T0 := TX5) (N := 7) C hK inlX5 0 rfl rfl 2 (by decide) m_158 (fun _ h9 => h9) rfl dX5_init_47 rfl ?_
      refine gq_iln C 1 dX5_init_50 rfl rfl rfl ?_
      refine k_new (C0 := RX8) (T0 := TX8) (N := 3) (ci := 8) C hK hA inlX8 tyX8 tyX8_ok m_153 m_154 m_155 rfl dfX8 (by show 7 + 3 * i1 + 1 ≤ 141; omega) (by show 75 + 17 * i1 + 3 ≤ 829; omega) dX5_init_51 rfl (fun b4 => ?_)
      refine gq_st (ws' := kP TXZ cy D _ _ (fun _ => True) [(h0, .inr (5, [.ref b1, .ref b2, .ref b3, .null, .null, .int 0, .int 0])), (b3, .inl (cy 5, 41, .inr (.inr (.inr (.inr f1))))), (b4, .inr (8, [.null, .int 0, .int 0]))] (rs1)) (fun _ _ h => h) ?_
      refine gq_dup C dX5_init_54 rfl rfl ?_
      refine k_init (gc' := fun _ => True) (fr := [(h0, .inr (5, [.ref b1, .ref b2, .ref b3, .null, .null, .int 0, .int 0])), (b3, .inl (cy 5, 41, .inr (.inr (.inr (.inr f1)))))]) (As := []) (rest := [.ref b4, zv (i1 : Int), .ref b3]) C hE hEs rfl hA (kc_X8 hE hX) (fun _ _ _ _ => trivial) (cwI 0 C.2.2.2.1 (gdI m_163) rfl rfl rfl (C.2.2.2.1 _ m_155) (C.2.2.2.1 _ m_161) (C.2.2.2.1 _ m_162) rfl (by decide +kernel) ⟨Nat.le_of_ble_eq_true rfl, Nat.le_of_ble_eq_true rfl⟩) rfl rfl (Nat.le_of_ble_eq_true rfl) dX5_init_55 ⟨(by show 7 + 3 * i1 + 1 + 2 ≤ 141; omega), (by show 75 + 17 * i1 + 3 + 14 ≤ 829; omega)⟩ rfl ?_
      refine k_aast (fr' := [(h0, .inr (5, [.ref b1, .ref b2, .ref b3, .null, .null, .int 0, .int 0])), (b3, .inl (cy 5, 41, .inr (.inr (.inr (.inr (va_up f1 (Int.toNat (i1 : Int)) (some b4)))))))]) (g := 10) (ci := 8) (n := 41) C hK 1 5 rfl rfl (List.mem_append_right _ (List.mem_singleton.mpr rfl)) rfl rfl (by omega) (by omega) (by decide) dX5_init_58 rfl rfl ?_
      refine gq_inc (lv' := [(1, zv ((i1 : Int) + 1)), (0, .ref h0)]) C 1 dX5_init_59 rfl (by decide) rfl rfl ?_
      refine gq_goto C 37 dX5_init_62 (by decide) ?_
      refine gq_pick (lv' := [(0, .ref h0), (1, zv ((i1 + 1 : Nat) : Int))]) [1, 0] rfl ?_
      refine gq_wd (cl' := 7 + 3 * (i1 + 1)) (sl' := 75 + 17 * (i1 + 1)) (by omega) (by omega) ?_
      refine ih1 (i1 + 1) _ _ (by omega) (fun r hr => List.mem_append_left _ (hrs1 r hr)) (fun j hj => ?_)
      by_cases e : j = i1
      · exact ⟨b4, by simp [va_up, e], List.mem_append_right _ (List.mem_singleton.mpr rfl)⟩
      · obtain ⟨a, e1, e2⟩ := hf1 j (by omega)
        exact ⟨a, by simp [va_up, e, e1], List.mem_append_left _ e2⟩
    | zero =>
      intro i1 f1 rs1 hi1 hrs1 hf1
      obtain rfl : i1 = 41 := by omega
      refine gq_wd (cl' := 130) (sl' := 772) (Nat.le_of_ble_eq_true rfl) (Nat.le_of_ble_eq_true rfl) ?_
      refine gq_pick (lv' := [(0, .ref h0), (1, zv 41)]) [0, 1] rfl ?_
      refine gq_iln C 1 dX5_init_37 rfl rfl rfl ?_
      refine gq_aln C 0 dX5_init_38 rfl rfl rfl ?_
      refine k_get (C0 := RX5) (T0 := TX5) (N := 7) C hK inlX5 0 rfl rfl 2 (by decide) m_158 (fun _ h9 => h9) rfl dX5_init_39 rfl ?_
      refine k_alen C hK 1 5 rfl rfl dX5_init_42 rfl ?_
      refine gq_cmp C 65 dX5_init_43 (by decide) ⟨by omega, by omega⟩ ⟨by omega, by omega⟩ rfl (fun _ => ?_) (fun h => absurd (show (41 : Int) < 41 from h) (by omega))
      refine k_up (g := 28) (b := b3) (gc' := fun _ => True) (fr := [(h0, .inr (5, [.ref b1, .ref b2, .ref b3, .null, .null, .int 0, .int 0]))]) rfl (fun _ _ => trivial) (fun gs ad hq => ok_row (by decide) (by decide) hq hf1) ?_
      refine gq_st (ws' := kP TXZ cy D _ _ (fun _ => True) [(h0, .inr (5, [.ref b1, .ref b2, .ref b3, .null, .null, .int 0, .int 0]))] (rs1 ++ [(b3, 28)])) (fun _ _ h => h) ?_
      refine gq_aln C 0 dX5_init_65 rfl rfl rfl ?_
      refine gq_ic C dX5_init_66 rfl ?_
      refine k_newq (t0 := 5) (N' := 3) C hK hA m_153 (hX _ _ hEs).2 rfl (by decide +kernel) (by decide +kernel) (by decide +kernel) (Nat.le_of_ble_eq_true rfl) (Nat.le_of_ble_eq_true rfl) dX5_init_67 rfl (fun b5 => ?_)
      refine gq_st (ws' := kP TXZ cy D _ _ (fun _ => True) [(h0, .inr (5, [.ref b1, .ref b2, .ref b3, .null, .null, .int 0, .int 0])), (b5, .inl (cy 5, 3, .inr (.inr (.inr (.inr (fun _ => none))))))] (rs1 ++ [(b3, 28)])) (fun _ _ h => h) ?_
      refine k_putF (C0 := RX5) (T0 := TX5) (N := 7) (ty := (tyX5 3)) (fr' := [(h0, .inr (5, [.ref b1, .ref b2, .ref b3, .ref b5, .null, .int 0, .int 0])), (b5, .inl (cy 5, 3, .inr (.inr (.inr (.inr (fun _ => none))))))]) C hK inlX5 tyX5 tyX5_ok nmX5 0 rfl rfl 3 (by decide) m_159 (fun _ h9 => h9) rfl hin rfl (by decide +kernel) rfl rfl (Nat.le_of_ble_eq_true rfl) dX5_init_70 rfl rfl ?_
      refine gq_ic C dX5_init_73 rfl ?_
      refine gq_isn (lv' := [(1, zv 0), (0, .ref h0)]) C dX5_init_74 rfl (by decide) rfl rfl ?_
      have loop2 : ∀ (q2 i2 : Nat) (f2 : Nat → Option Nat) (rs2 : List (Nat × Nat)), i2 + q2 = 3 → (∀ r ∈ (rs1 ++ [(b3, 28)] : List (Nat × Nat)), r ∈ rs2) → (∀ j, j < i2 → ∃ a, f2 j = some a ∧ (a, 10) ∈ rs2) → GW p l e ({ frames := 3, cells := 141, slots := 829, locals := 57 }) s m (([.ref h0] : List Value).toArray) below meth c (MQ below (kQ TXZ cy D (fun _ => True) h0 2 s.heap.size [(h0, .inr (5, [.null, .null, .null, .null, .null, .int 0, .int 0]))]) (([.ref h0] : List Value).toArray) s 141 829 (va_A [(h0, .inr (5, [.null, .null, .null, .null, .null, .int 0, .int 0]))] s.heap.size)) cX5_init 2 (131 + 3 * i2) (775 + 17 * i2) 75 [(0, .ref h0), (1, zv (i2 : Int))] [] (kP TXZ cy D (va_A [(h0, .inr (5, [.null, .null, .null, .null, .null, .int 0, .int 0]))] s.heap.size) s.heap (fun _ => True) [(h0, .inr (5, [.ref b1, .ref b2, .ref b3, .ref b5, .null, .int 0, .int 0])), (b5, .inl (cy 5, 3, .inr (.inr (.inr (.inr f2)))))] rs2) := by
        intro q2
        induction q2 with
        | succ q2 ih2 =>
          intro i2 f2 rs2 hi2 hrs2 hf2
          refine gq_iln C 1 dX5_init_75 rfl rfl rfl ?_
          refine gq_aln C 0 dX5_init_76 rfl rfl rfl ?_
          refine k_get (C0 := RX5) (T0 := TX5) (N := 7) C hK inlX5 0 rfl rfl 3 (by decide) m_159 (fun _ h9 => h9) rfl dX5_init_77 rfl ?_
          refine k_alen C hK 1 5 rfl rfl dX5_init_80 rfl ?_
          refine gq_cmp C 103 dX5_init_81 (by decide) ⟨by omega, by omega⟩ ⟨by omega, by omega⟩ rfl (fun h => absurd (show (3 : Int) ≤ (i2 : Int) from h) (by omega)) (fun _ => ?_)
          refine gq_aln C 0 dX5_init_84 rfl rfl rfl ?_
          refine k_get (C0 := RX5) (T0 := TX5) (N := 7) C hK inlX5 0 rfl rfl 3 (by decide) m_159 (fun _ h9 => h9) rfl dX5_init_85 rfl ?_
          refine gq_iln C 1 dX5_init_88 rfl rfl rfl ?_
          refine k_new (C0 := RX8) (T0 := TX8) (N := 3) (ci := 8) C hK hA inlX8 tyX8 tyX8_ok m_153 m_154 m_155 rfl dfX8 (by show 131 + 3 * i2 + 1 ≤ 141; omega) (by show 775 + 17 * i2 + 3 ≤ 829; omega) dX5_init_89 rfl (fun b6 => ?_)
          refine gq_st (ws' := kP TXZ cy D _ _ (fun _ => True) [(h0, .inr (5, [.ref b1, .ref b2, .ref b3, .ref b5, .null, .int 0, .int 0])), (b5, .inl (cy 5, 3, .inr (.inr (.inr (.inr f2))))), (b6, .inr (8, [.null, .int 0, .int 0]))] (rs2)) (fun _ _ h => h) ?_
          refine gq_dup C dX5_init_92 rfl rfl ?_
          refine k_init (gc' := fun _ => True) (fr := [(h0, .inr (5, [.ref b1, .ref b2, .ref b3, .ref b5, .null, .int 0, .int 0])), (b5, .inl (cy 5, 3, .inr (.inr (.inr (.inr f2)))))]) (As := []) (rest := [.ref b6, zv (i2 : Int), .ref b5]) C hE hEs rfl hA (kc_X8 hE hX) (fun _ _ _ _ => trivial) (cwI 0 C.2.2.2.1 (gdI m_163) rfl rfl rfl (C.2.2.2.1 _ m_155) (C.2.2.2.1 _ m_161) (C.2.2.2.1 _ m_162) rfl (by decide +kernel) ⟨Nat.le_of_ble_eq_true rfl, Nat.le_of_ble_eq_true rfl⟩) rfl rfl (Nat.le_of_ble_eq_true rfl) dX5_init_93 ⟨(by show 131 + 3 * i2 + 1 + 2 ≤ 141; omega), (by show 775 + 17 * i2 + 3 + 14 ≤ 829; omega)⟩ rfl ?_
          refine k_aast (fr' := [(h0, .inr (5, [.ref b1, .ref b2, .ref b3, .ref b5, .null, .int 0, .int 0])), (b5, .inl (cy 5, 3, .inr (.inr (.inr (.inr (va_up f2 (Int.toNat (i2 : Int)) (some b6)))))))]) (g := 10) (ci := 8) (n := 3) C hK 1 5 rfl rfl (List.mem_append_right _ (List.mem_singleton.mpr rfl)) rfl rfl (by omega) (by omega) (by decide) dX5_init_96 rfl rfl ?_
          refine gq_inc (lv' := [(1, zv ((i2 : Int) + 1)), (0, .ref h0)]) C 1 dX5_init_97 rfl (by decide) rfl rfl ?_
          refine gq_goto C 75 dX5_init_100 (by decide) ?_
          refine gq_pick (lv' := [(0, .ref h0), (1, zv ((i2 + 1 : Nat) : Int))]) [1, 0] rfl ?_
          refine gq_wd (cl' := 131 + 3 * (i2 + 1)) (sl' := 775 + 17 * (i2 + 1)) (by omega) (by omega) ?_
          refine ih2 (i2 + 1) _ _ (by omega) (fun r hr => List.mem_append_left _ (hrs2 r hr)) (fun j hj => ?_)
          by_cases e : j = i2
          · exact ⟨b6, by simp [va_up, e], List.mem_append_right _ (List.mem_singleton.mpr rfl)⟩
          · obtain ⟨a, e1, e2⟩ := hf2 j (by omega)
            exact ⟨a, by simp [va_up, e, e1], List.mem_append_left _ e2⟩
        | zero =>
          intro i2 f2 rs2 hi2 hrs2 hf2
          obtain rfl : i2 = 3 := by omega
          refine gq_wd (cl' := 140) (sl' := 826) (Nat.le_of_ble_eq_true rfl) (Nat.le_of_ble_eq_true rfl) ?_
          refine gq_pick (lv' := [(0, .ref h0), (1, zv 3)]) [0, 1] rfl ?_
          refine gq_iln C 1 dX5_init_75 rfl rfl rfl ?_
          refine gq_aln C 0 dX5_init_76 rfl rfl rfl ?_
          refine k_get (C0 := RX5) (T0 := TX5) (N := 7) C hK inlX5 0 rfl rfl 3 (by decide) m_159 (fun _ h9 => h9) rfl dX5_init_77 rfl ?_
          refine k_alen C hK 1 5 rfl rfl dX5_init_80 rfl ?_
          refine gq_cmp C 103 dX5_init_81 (by decide) ⟨by omega, by omega⟩ ⟨by omega, by omega⟩ rfl (fun _ => ?_) (fun h => absurd (show (3 : Int) < 3 from h) (by omega))
          refine k_up (g := 29) (b := b5) (gc' := fun _ => True) (fr := [(h0, .inr (5, [.ref b1, .ref b2, .ref b3, .ref b5, .null, .int 0, .int 0]))]) rfl (fun _ _ => trivial) (fun gs ad hq => ok_row (by decide) (by decide) hq hf2) ?_
          refine gq_st (ws' := kP TXZ cy D _ _ (fun _ => True) [(h0, .inr (5, [.ref b1, .ref b2, .ref b3, .ref b5, .null, .int 0, .int 0]))] (rs2 ++ [(b5, 29)])) (fun _ _ h => h) ?_
          refine gq_aln C 0 dX5_init_103 rfl rfl rfl ?_
          refine gq_ic C dX5_init_104 rfl ?_
          refine k_newa (gc' := (fun _ => True)) (N' := 3) (g := 30) (x := .inl (fun _ => 0)) C hK hA (atype := .boolean) m_122 rfl rfl (xa_zZ 3) (by decide +kernel) (by decide +kernel) (by decide +kernel) rfl ⟨_, rfl⟩ (helz (by decide +kernel)) (fun _ _ => trivial) (Nat.le_of_ble_eq_true rfl) (Nat.le_of_ble_eq_true rfl) dX5_init_105 rfl (fun b7 => ?_)
          refine k_putF (C0 := RX5) (T0 := TX5) (N := 7) (ty := (tyX5 4)) (fr' := [(h0, .inr (5, [.ref b1, .ref b2, .ref b3, .ref b5, .ref b7, .int 0, .int 0]))]) C hK inlX5 tyX5 tyX5_ok nmX5 0 rfl rfl 4 (by decide) m_160 (fun _ h9 => h9) rfl hin rfl (by decide +kernel) rfl rfl (Nat.le_of_ble_eq_true rfl) dX5_init_107 rfl rfl ?_
          refine gq_wd (cl' := 141) (sl' := 829) (Nat.le_of_ble_eq_true rfl) (Nat.le_of_ble_eq_true rfl) ?_
          exact k_ret (gf := [2]) C hlocks hr dX5_init_110 rfl rfl rfl rfl rfl rfl (fun _ _ => trivial) (fun gs ad hq => ⟨⟨_, rfl, rfl, oks_ok (show oks _ _ _ [.ref b1, .ref b2, .ref b3, .ref b5, .ref b7, .int 0, .int 0] from ⟨(rt_ok (hq (b1, 10) (List.mem_append_left _ (List.mem_append_left _ ((hrs2 _ (List.mem_append_left _ ((hrs1 _ (List.mem_append_left _ (List.mem_append_right _ (List.mem_singleton.mpr rfl))))))))))) (by decide)), (rt_ok (hq (b2, 10) (List.mem_append_left _ (List.mem_append_left _ ((hrs2 _ (List.mem_append_left _ ((hrs1 _ (List.mem_append_right _ (List.mem_singleton.mpr rfl)))))))))) (by decide)), (rt_ok (hq (b3, 28) (List.mem_append_left _ (List.mem_append_left _ ((hrs2 _ (List.mem_append_right _ (List.mem_singleton.mpr rfl))))))) (by decide)), (rt_ok (hq (b5, 29) (List.mem_append_left _ (List.mem_append_right _ (List.mem_singleton.mpr rfl)))) (by decide)), (rt_ok (hq (b7, 30) (List.mem_append_right _ (List.mem_singleton.mpr rfl))) (by decide)), ⟨_, rfl, by decide +kernel, by decide +kernel⟩, ⟨_, rfl, by decide +kernel, by decide +kernel⟩, trivial⟩)⟩, trivial⟩)
      refine gq_pick (lv' := [(0, .ref h0), (1, zv ((0 : Nat) : Int))]) [1, 0] rfl ?_
      exact loop2 3 0 _ _ rfl (fun r hr => hr) (fun j hj => absurd hj (Nat.not_lt_zero _))
  refine gq_pick (lv' := [(0, .ref h0), (1, zv ((0 : Nat) : Int))]) [1, 0] rfl ?_
  exact loop1 41 0 _ _ rfl (fun r hr => hr) (fun j hj => absurd hj (Nat.not_lt_zero _))
