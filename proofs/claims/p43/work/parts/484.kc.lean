theorem m_9 : Cond.methodLink RX11 1 objectInit ∈ wsL_law := in_wsL_law_r1 _ (List.mem_of_getElem? (i := 9) rfl)
theorem m_12 : Cond.classLink RX11 7 RX6 ∈ wsL_law := in_wsL_law_r1 _ (List.mem_of_getElem? (i := 12) rfl)
theorem m_13 : Cond.instantiable RX6 4 ∈ wsL_law := in_wsL_law_r1 _ (List.mem_of_getElem? (i := 13) rfl)
theorem m_16 : Cond.classLink RX11 16 RX5 ∈ wsL_law := in_wsL_law_r1 _ (List.mem_of_getElem? (i := 16) rfl)
theorem m_17 : Cond.instantiable RX5 7 ∈ wsL_law := in_wsL_law_r1 _ (List.mem_of_getElem? (i := 17) rfl)
theorem m_20 : Cond.classLink RX11 23 RX4 ∈ wsL_law := in_wsL_law_r1 _ (List.mem_of_getElem? (i := 20) rfl)
theorem m_21 : Cond.instantiable RX4 7 ∈ wsL_law := in_wsL_law_r1 _ (List.mem_of_getElem? (i := 21) rfl)
theorem m_24 : Cond.classLink RX11 30 RX2 ∈ wsL_law := in_wsL_law_r2 _ (List.mem_of_getElem? (i := 0) rfl)
theorem m_25 : Cond.instantiable RX2 1 ∈ wsL_law := in_wsL_law_r2 _ (List.mem_of_getElem? (i := 1) rfl)
theorem m_28 : Cond.classLink RX11 37 RX3 ∈ wsL_law := in_wsL_law_r2 _ (List.mem_of_getElem? (i := 4) rfl)
theorem m_29 : Cond.instantiable RX3 3 ∈ wsL_law := in_wsL_law_r2 _ (List.mem_of_getElem? (i := 5) rfl)
theorem m_32 : Cond.classLink RX11 44 RX7 ∈ wsL_law := in_wsL_law_r2 _ (List.mem_of_getElem? (i := 8) rfl)
theorem m_33 : Cond.instantiable RX7 13 ∈ wsL_law := in_wsL_law_r2 _ (List.mem_of_getElem? (i := 9) rfl)
theorem m_36 : Cond.classLink RX11 51 RX1 ∈ wsL_law := in_wsL_law_r2 _ (List.mem_of_getElem? (i := 12) rfl)
theorem m_41 : Cond.classLink RX11 63 RX10 ∈ wsL_law := in_wsL_law_r2 _ (List.mem_of_getElem? (i := 17) rfl)
theorem m_42 : Cond.instantiable RX10 12 ∈ wsL_law := in_wsL_law_r2 _ (List.mem_of_getElem? (i := 18) rfl)
theorem m_45 : Cond.methodLink RX11 9 yX6_init ∈ wsL_law := in_wsL_law_r2 _ (List.mem_of_getElem? (i := 21) rfl)
theorem m_46 : Cond.instanceMethod yX6_init ∈ wsL_law := in_wsL_law_r2 _ (List.mem_of_getElem? (i := 22) rfl)
theorem m_47 : Cond.code yX6_init cX6_init 1 none ∈ wsL_law := in_wsL_law_r2 _ (List.mem_of_getElem? (i := 23) rfl)
theorem m_48 : Cond.methodLink RX6 3 objectInit ∈ wsL_law := in_wsL_law_r3 _ (List.mem_of_getElem? (i := 0) rfl)
theorem m_49 : Cond.classLink RX6 9 RX9 ∈ wsL_law := in_wsL_law_r3 _ (List.mem_of_getElem? (i := 1) rfl)
theorem m_50 : Cond.instantiable RX9 8 ∈ wsL_law := in_wsL_law_r3 _ (List.mem_of_getElem? (i := 2) rfl)
theorem m_53 : Cond.classLink RX6 18 RX10 ∈ wsL_law := in_wsL_law_r3 _ (List.mem_of_getElem? (i := 5) rfl)
theorem m_57 : Cond.methodLink RX6 11 yX9_init ∈ wsL_law := in_wsL_law_r3 _ (List.mem_of_getElem? (i := 9) rfl)
theorem m_58 : Cond.instanceMethod yX9_init ∈ wsL_law := in_wsL_law_r3 _ (List.mem_of_getElem? (i := 10) rfl)
theorem m_59 : Cond.code yX9_init cX9_init 4 none ∈ wsL_law := in_wsL_law_r3 _ (List.mem_of_getElem? (i := 11) rfl)
theorem m_60 : Cond.methodLink RX9 3 objectInit ∈ wsL_law := in_wsL_law_r3 _ (List.mem_of_getElem? (i := 12) rfl)
theorem m_61 : Cond.arrayClass .byte ∈ wsL_law := in_wsL_law_r3 _ (List.mem_of_getElem? (i := 13) rfl)
theorem m_65 : Cond.methodLink RX9 21 yJ0_length_8abf5 ∈ wsL_law := in_wsL_law_r3 _ (List.mem_of_getElem? (i := 17) rfl)
theorem m_77 : Cond.methodLink RX9 27 yJ0_charAt_5068e ∈ wsL_law := in_wsL_law_r4 _ (List.mem_of_getElem? (i := 5) rfl)
theorem m_78 : Cond.instanceMethod yJ0_charAt_5068e ∈ wsL_law := in_wsL_law_r4 _ (List.mem_of_getElem? (i := 6) rfl)
theorem m_79 : Cond.selects RJ0 yJ0_charAt_5068e yJ0_charAt_5068e ∈ wsL_law := in_wsL_law_r4 _ (List.mem_of_getElem? (i := 7) rfl)
theorem m_80 : Cond.code yJ0_charAt_5068e cJ0_charAt_5068e 2 (some .char) ∈ wsL_law := in_wsL_law_r4 _ (List.mem_of_getElem? (i := 8) rfl)
theorem m_85 : Cond.methodLink RJ0 495 yJ1_charAt_3b067 ∈ wsL_law := in_wsL_law_r4 _ (List.mem_of_getElem? (i := 13) rfl)
theorem m_86 : Cond.static yJ1_charAt_3b067 ∈ wsL_law := in_wsL_law_r4 _ (List.mem_of_getElem? (i := 14) rfl)
theorem m_88 : Cond.code yJ1_charAt_3b067 cJ1_charAt_3b067 2 (some .char) ∈ wsL_law := in_wsL_law_r4 _ (List.mem_of_getElem? (i := 16) rfl)
theorem m_89 : Cond.methodLink RJ1 9 yJ0_checkIndex_df160 ∈ wsL_law := in_wsL_law_r4 _ (List.mem_of_getElem? (i := 17) rfl)
theorem m_90 : Cond.static yJ0_checkIndex_df160 ∈ wsL_law := in_wsL_law_r4 _ (List.mem_of_getElem? (i := 18) rfl)
theorem m_91 : Cond.code yJ0_checkIndex_df160 cJ0_checkIndex_df160 2 none ∈ wsL_law := in_wsL_law_r4 _ (List.mem_of_getElem? (i := 19) rfl)
theorem m_92 : Cond.fieldLink RJ0 1053 "jdk/internal/util/Preconditions" "SIOOBE_FORMATTER" "Ljava/util/function/BiFunction;" ∈ wsL_law := in_wsL_law_r4 _ (List.mem_of_getElem? (i := 20) rfl)
theorem m_93 : Cond.methodLink RJ0 1059 yJ3_checkIndex_8e157 ∈ wsL_law := in_wsL_law_r4 _ (List.mem_of_getElem? (i := 21) rfl)
theorem m_94 : Cond.static yJ3_checkIndex_8e157 ∈ wsL_law := in_wsL_law_r4 _ (List.mem_of_getElem? (i := 22) rfl)
theorem m_95 : Cond.initialized RJ3 ∈ wsL_law := in_wsL_law_r4 _ (List.mem_of_getElem? (i := 23) rfl)
theorem m_96 : Cond.code yJ3_checkIndex_8e157 cJ3_checkIndex_8e157 3 (some .int) ∈ wsL_law := in_wsL_law_r5 _ (List.mem_of_getElem? (i := 0) rfl)
theorem m_114 : Cond.methodLink RX6 20 yX10_init ∈ wsL_law := in_wsL_law_r5 _ (List.mem_of_getElem? (i := 18) rfl)
theorem m_115 : Cond.instanceMethod yX10_init ∈ wsL_law := in_wsL_law_r5 _ (List.mem_of_getElem? (i := 19) rfl)
theorem m_116 : Cond.code yX10_init cX10_init 2 none ∈ wsL_law := in_wsL_law_r5 _ (List.mem_of_getElem? (i := 20) rfl)
theorem m_149 : Cond.methodLink RX11 18 yX5_init ∈ wsL_law := in_wsL_law_r7 _ (List.mem_of_getElem? (i := 5) rfl)
theorem m_150 : Cond.instanceMethod yX5_init ∈ wsL_law := in_wsL_law_r7 _ (List.mem_of_getElem? (i := 6) rfl)
theorem m_151 : Cond.code yX5_init cX5_init 2 none ∈ wsL_law := in_wsL_law_r7 _ (List.mem_of_getElem? (i := 7) rfl)
theorem m_170 : Cond.methodLink RX11 25 yX4_init ∈ wsL_law := in_wsL_law_r8 _ (List.mem_of_getElem? (i := 2) rfl)
theorem m_171 : Cond.instanceMethod yX4_init ∈ wsL_law := in_wsL_law_r8 _ (List.mem_of_getElem? (i := 3) rfl)
theorem m_172 : Cond.code yX4_init cX4_init 1 none ∈ wsL_law := in_wsL_law_r8 _ (List.mem_of_getElem? (i := 4) rfl)
theorem m_183 : Cond.methodLink RX11 32 yX2_init ∈ wsL_law := in_wsL_law_r8 _ (List.mem_of_getElem? (i := 15) rfl)
theorem m_184 : Cond.instanceMethod yX2_init ∈ wsL_law := in_wsL_law_r8 _ (List.mem_of_getElem? (i := 16) rfl)
theorem m_185 : Cond.code yX2_init cX2_init 1 none ∈ wsL_law := in_wsL_law_r8 _ (List.mem_of_getElem? (i := 17) rfl)
theorem m_188 : Cond.methodLink RX11 39 yX3_init ∈ wsL_law := in_wsL_law_r8 _ (List.mem_of_getElem? (i := 20) rfl)
theorem m_189 : Cond.instanceMethod yX3_init ∈ wsL_law := in_wsL_law_r8 _ (List.mem_of_getElem? (i := 21) rfl)
theorem m_190 : Cond.code yX3_init cX3_init 1 none ∈ wsL_law := in_wsL_law_r8 _ (List.mem_of_getElem? (i := 22) rfl)
theorem m_197 : Cond.methodLink RX11 46 yX7_init ∈ wsL_law := in_wsL_law_r9 _ (List.mem_of_getElem? (i := 5) rfl)
theorem m_198 : Cond.instanceMethod yX7_init ∈ wsL_law := in_wsL_law_r9 _ (List.mem_of_getElem? (i := 6) rfl)
theorem m_199 : Cond.code yX7_init cX7_init 1 none ∈ wsL_law := in_wsL_law_r9 _ (List.mem_of_getElem? (i := 7) rfl)
theorem m_212 : Cond.methodLink RX11 53 yX1_init ∈ wsL_law := in_wsL_law_r9 _ (List.mem_of_getElem? (i := 20) rfl)
theorem m_213 : Cond.methodLink RX11 65 yX10_init ∈ wsL_law := in_wsL_law_r9 _ (List.mem_of_getElem? (i := 21) rfl)
theorem dJ1_charAt_3b067_0 : decode cJ1_charAt_3b067 0 = .ok (.iload_n 1, 1) := by decide +kernel
theorem dX9_init_77 : decode cX9_init 77 = .ok (.i2l, 1) := by decide +kernel
theorem dX9_init_1 : decode cX9_init 1 = .ok (.invokespecial 3, 3) := by decide +kernel
theorem dX9_init_50 : decode cX9_init 50 = .ok (.goto 30, 3) := by decide +kernel
theorem dJ3_checkIndex_8e157_4 : decode cJ3_checkIndex_8e157 4 = .ok (.iload_n 0, 1) := by decide +kernel
theorem dJ1_charAt_3b067_6 : decode cJ1_charAt_3b067 6 = .ok (.aload_n 0, 1) := by decide +kernel
theorem dJ0_charAt_5068e_8 : decode cJ0_charAt_5068e 8 = .ok (.getfield 9, 3) := by decide +kernel
theorem dX9_init_78 : decode cX9_init 78 = .ok (.lor, 1) := by decide +kernel
theorem dJ0_checkIndex_df160_0 : decode cJ0_checkIndex_df160 0 = .ok (.iload_n 0, 1) := by decide +kernel
theorem dX9_init_68 : decode cX9_init 68 = .ok (.getfield 15, 3) := by decide +kernel
theorem dX9_init_59 : decode cX9_init 59 = .ok (.if_icmp .ge 21, 3) := by decide +kernel
theorem dX9_init_79 : decode cX9_init 79 = .ok (.lastore, 1) := by decide +kernel
theorem dJ0_charAt_5068e_7 : decode cJ0_charAt_5068e 7 = .ok (.aload_n 0, 1) := by decide +kernel
theorem dX9_init_16 : decode cX9_init 16 = .ok (.newarray .long, 2) := by decide +kernel
theorem dX9_init_63 : decode cX9_init 63 = .ok (.getfield 15, 3) := by decide +kernel
theorem dX9_init_66 : decode cX9_init 66 = .ok (.iload_n 1, 1) := by decide +kernel
theorem dJ3_checkIndex_8e157_6 : decode cJ3_checkIndex_8e157 6 = .ok (.if_icmp .lt 10, 3) := by decide +kernel
theorem dJ3_checkIndex_8e157_1 : decode cJ3_checkIndex_8e157 1 = .ok (.ifCond .lt 8, 3) := by decide +kernel
theorem dJ3_checkIndex_8e157_16 : decode cJ3_checkIndex_8e157 16 = .ok (.iload_n 0, 1) := by decide +kernel
theorem dX9_init_62 : decode cX9_init 62 = .ok (.aload_n 0, 1) := by decide +kernel
theorem dX9_init_72 : decode cX9_init 72 = .ok (.laload, 1) := by decide +kernel
theorem dJ1_charAt_3b067_14 : decode cJ1_charAt_3b067 14 = .ok (.ireturn, 1) := by decide +kernel
theorem dX9_init_71 : decode cX9_init 71 = .ok (.iload_n 1, 1) := by decide +kernel
theorem dX9_init_25 : decode cX9_init 25 = .ok (.iload_n 2, 1) := by decide +kernel
theorem dJ1_charAt_3b067_8 : decode cJ1_charAt_3b067 8 = .ok (.baload, 1) := by decide +kernel
theorem dX9_init_24 : decode cX9_init 24 = .ok (.istore_n 2, 1) := by decide +kernel
theorem dJ1_charAt_3b067_3 : decode cJ1_charAt_3b067 3 = .ok (.invokestatic 9, 3) := by decide +kernel
theorem dX9_init_67 : decode cX9_init 67 = .ok (.aload_n 0, 1) := by decide +kernel
theorem dX9_init_22 : decode cX9_init 22 = .ok (.istore_n 1, 1) := by decide +kernel
theorem dX9_init_4 : decode cX9_init 4 = .ok (.aload_n 0, 1) := by decide +kernel
theorem dJ3_checkIndex_8e157_0 : decode cJ3_checkIndex_8e157 0 = .ok (.iload_n 0, 1) := by decide +kernel
theorem dX9_init_23 : decode cX9_init 23 = .ok (.iconst 0, 1) := by decide +kernel
theorem dX9_init_83 : decode cX9_init 83 = .ok (.goto (-58), 3) := by decide +kernel
theorem dX9_init_86 : decode cX9_init 86 = .ok (.return_, 1) := by decide +kernel
theorem dX9_init_0 : decode cX9_init 0 = .ok (.aload_n 0, 1) := by decide +kernel
theorem dX9_init_8 : decode cX9_init 8 = .ok (.newarray .byte, 2) := by decide +kernel
theorem dJ3_checkIndex_8e157_5 : decode cJ3_checkIndex_8e157 5 = .ok (.iload_n 1, 1) := by decide +kernel
theorem dX9_init_73 : decode cX9_init 73 = .ok (.bipush 8, 2) := by decide +kernel
theorem dJ0_checkIndex_df160_5 : decode cJ0_checkIndex_df160 5 = .ok (.invokestatic 1059, 3) := by decide +kernel
theorem dX9_init_26 : decode cX9_init 26 = .ok (.ldc 19, 2) := by decide +kernel
theorem dX9_init_5 : decode cX9_init 5 = .ok (.sipush 1600, 3) := by decide +kernel
theorem dJ1_charAt_3b067_12 : decode cJ1_charAt_3b067 12 = .ok (.iand, 1) := by decide +kernel
theorem dJ3_checkIndex_8e157_17 : decode cJ3_checkIndex_8e157 17 = .ok (.ireturn, 1) := by decide +kernel
theorem dJ1_charAt_3b067_1 : decode cJ1_charAt_3b067 1 = .ok (.aload_n 0, 1) := by decide +kernel
theorem dX9_init_34 : decode cX9_init 34 = .ok (.ldc 19, 2) := by decide +kernel
theorem dJ0_checkIndex_df160_8 : decode cJ0_checkIndex_df160 8 = .ok (.pop, 1) := by decide +kernel
theorem dX9_init_53 : decode cX9_init 53 = .ok (.iload_n 1, 1) := by decide +kernel
theorem dX9_init_13 : decode cX9_init 13 = .ok (.aload_n 0, 1) := by decide +kernel
theorem dX9_init_44 : decode cX9_init 44 = .ok (.if_icmp .ne 9, 3) := by decide +kernel
theorem dX9_init_42 : decode cX9_init 42 = .ok (.bipush 32, 2) := by decide +kernel
theorem dJ0_charAt_5068e_4 : decode cJ0_charAt_5068e 4 = .ok (.ifCond .eq 12, 3) := by decide +kernel
theorem dX9_init_10 : decode cX9_init 10 = .ok (.putfield 9, 3) := by decide +kernel
theorem dX9_init_18 : decode cX9_init 18 = .ok (.putfield 15, 3) := by decide +kernel
theorem dX9_init_47 : decode cX9_init 47 = .ok (.iinc 1 1, 3) := by decide +kernel
theorem dX9_init_41 : decode cX9_init 41 = .ok (.iload_n 3, 1) := by decide +kernel
theorem dJ0_checkIndex_df160_9 : decode cJ0_checkIndex_df160 9 = .ok (.return_, 1) := by decide +kernel
theorem dX9_init_40 : decode cX9_init 40 = .ok (.istore_n 3, 1) := by decide +kernel
theorem dX9_init_75 : decode cX9_init 75 = .ok (.lshl, 1) := by decide +kernel
theorem dJ1_charAt_3b067_7 : decode cJ1_charAt_3b067 7 = .ok (.iload_n 1, 1) := by decide +kernel
theorem dJ0_charAt_5068e_12 : decode cJ0_charAt_5068e 12 = .ok (.invokestatic 495, 3) := by decide +kernel
theorem dX9_init_55 : decode cX9_init 55 = .ok (.getfield 15, 3) := by decide +kernel
theorem dX9_init_58 : decode cX9_init 58 = .ok (.arraylength, 1) := by decide +kernel
theorem dJ0_charAt_5068e_15 : decode cJ0_charAt_5068e 15 = .ok (.ireturn, 1) := by decide +kernel
theorem dX9_init_76 : decode cX9_init 76 = .ok (.iload_n 3, 1) := by decide +kernel
theorem dX9_init_14 : decode cX9_init 14 = .ok (.bipush 15, 2) := by decide +kernel
theorem dJ0_charAt_5068e_0 : decode cJ0_charAt_5068e 0 = .ok (.aload_n 0, 1) := by decide +kernel
theorem dJ0_checkIndex_df160_1 : decode cJ0_checkIndex_df160 1 = .ok (.iload_n 1, 1) := by decide +kernel
theorem dX9_init_36 : decode cX9_init 36 = .ok (.iload_n 2, 1) := by decide +kernel
theorem dJ0_checkIndex_df160_2 : decode cJ0_checkIndex_df160 2 = .ok (.getstatic 1053, 3) := by decide +kernel
theorem dX9_init_37 : decode cX9_init 37 = .ok (.invokevirtual 27, 3) := by decide +kernel
theorem dX9_init_80 : decode cX9_init 80 = .ok (.iinc 2 1, 3) := by decide +kernel
theorem dX9_init_28 : decode cX9_init 28 = .ok (.invokevirtual 21, 3) := by decide +kernel
theorem dJ0_charAt_5068e_1 : decode cJ0_charAt_5068e 1 = .ok (.invokevirtual 492, 3) := by decide +kernel
theorem dX9_init_54 : decode cX9_init 54 = .ok (.aload_n 0, 1) := by decide +kernel
theorem dJ0_charAt_5068e_11 : decode cJ0_charAt_5068e 11 = .ok (.iload_n 1, 1) := by decide +kernel
theorem dX9_init_21 : decode cX9_init 21 = .ok (.iconst 0, 1) := by decide +kernel
theorem dX9_init_31 : decode cX9_init 31 = .ok (.if_icmp .ge 55, 3) := by decide +kernel
theorem dJ1_charAt_3b067_9 : decode cJ1_charAt_3b067 9 = .ok (.sipush 255, 3) := by decide +kernel
theorem dJ1_charAt_3b067_2 : decode cJ1_charAt_3b067 2 = .ok (.arraylength, 1) := by decide +kernel
theorem dJ1_charAt_3b067_13 : decode cJ1_charAt_3b067 13 = .ok (.i2c, 1) := by decide +kernel
theorem dX6_init_0 : decode cX6_init 0 = .ok (.aload_n 0, 1) := by decide +kernel
theorem dX6_init_1 : decode cX6_init 1 = .ok (.invokespecial 3, 3) := by decide +kernel
theorem dX6_init_4 : decode cX6_init 4 = .ok (.aload_n 0, 1) := by decide +kernel
theorem dX6_init_5 : decode cX6_init 5 = .ok (.new 9, 3) := by decide +kernel
theorem dX6_init_8 : decode cX6_init 8 = .ok (.dup, 1) := by decide +kernel
theorem dX6_init_9 : decode cX6_init 9 = .ok (.invokespecial 11, 3) := by decide +kernel
theorem dX6_init_12 : decode cX6_init 12 = .ok (.putfield 12, 3) := by decide +kernel
theorem dX6_init_15 : decode cX6_init 15 = .ok (.aload_n 0, 1) := by decide +kernel
theorem dX6_init_16 : decode cX6_init 16 = .ok (.new 18, 3) := by decide +kernel
theorem dX6_init_19 : decode cX6_init 19 = .ok (.dup, 1) := by decide +kernel
theorem dX6_init_20 : decode cX6_init 20 = .ok (.invokespecial 20, 3) := by decide +kernel
theorem dX6_init_23 : decode cX6_init 23 = .ok (.putfield 21, 3) := by decide +kernel
theorem dX6_init_26 : decode cX6_init 26 = .ok (.aload_n 0, 1) := by decide +kernel
theorem dX6_init_27 : decode cX6_init 27 = .ok (.iconst 0, 1) := by decide +kernel
theorem dX6_init_28 : decode cX6_init 28 = .ok (.putfield 25, 3) := by decide +kernel
theorem dX6_init_31 : decode cX6_init 31 = .ok (.aload_n 0, 1) := by decide +kernel
theorem dX6_init_32 : decode cX6_init 32 = .ok (.iconst (-1), 1) := by decide +kernel
theorem dX6_init_33 : decode cX6_init 33 = .ok (.putfield 29, 3) := by decide +kernel
theorem dX6_init_36 : decode cX6_init 36 = .ok (.return_, 1) := by decide +kernel
theorem dX11_init_0 : decode cX11_init 0 = .ok (.aload_n 0, 1) := by decide +kernel
theorem dX11_init_1 : decode cX11_init 1 = .ok (.invokespecial 1, 3) := by decide +kernel
theorem dX11_init_4 : decode cX11_init 4 = .ok (.aload_n 0, 1) := by decide +kernel
theorem dX11_init_5 : decode cX11_init 5 = .ok (.new 7, 3) := by decide +kernel
theorem dX11_init_8 : decode cX11_init 8 = .ok (.dup, 1) := by decide +kernel
theorem dX11_init_9 : decode cX11_init 9 = .ok (.invokespecial 9, 3) := by decide +kernel
theorem dX11_init_12 : decode cX11_init 12 = .ok (.putfield 10, 3) := by decide +kernel
theorem dX11_init_15 : decode cX11_init 15 = .ok (.aload_n 0, 1) := by decide +kernel
theorem dX11_init_16 : decode cX11_init 16 = .ok (.new 16, 3) := by decide +kernel
theorem dX11_init_19 : decode cX11_init 19 = .ok (.dup, 1) := by decide +kernel
theorem dX11_init_20 : decode cX11_init 20 = .ok (.invokespecial 18, 3) := by decide +kernel
theorem dX11_init_23 : decode cX11_init 23 = .ok (.putfield 19, 3) := by decide +kernel
theorem dX11_init_26 : decode cX11_init 26 = .ok (.aload_n 0, 1) := by decide +kernel
theorem dX11_init_27 : decode cX11_init 27 = .ok (.new 23, 3) := by decide +kernel
theorem dX11_init_30 : decode cX11_init 30 = .ok (.dup, 1) := by decide +kernel
theorem dX11_init_31 : decode cX11_init 31 = .ok (.invokespecial 25, 3) := by decide +kernel
theorem dX11_init_34 : decode cX11_init 34 = .ok (.putfield 26, 3) := by decide +kernel
theorem dX11_init_37 : decode cX11_init 37 = .ok (.aload_n 0, 1) := by decide +kernel
theorem dX11_init_38 : decode cX11_init 38 = .ok (.new 30, 3) := by decide +kernel
theorem dX11_init_41 : decode cX11_init 41 = .ok (.dup, 1) := by decide +kernel
theorem dX11_init_42 : decode cX11_init 42 = .ok (.invokespecial 32, 3) := by decide +kernel
theorem dX11_init_45 : decode cX11_init 45 = .ok (.putfield 33, 3) := by decide +kernel
theorem dX11_init_48 : decode cX11_init 48 = .ok (.aload_n 0, 1) := by decide +kernel
theorem dX11_init_49 : decode cX11_init 49 = .ok (.new 37, 3) := by decide +kernel
theorem dX11_init_52 : decode cX11_init 52 = .ok (.dup, 1) := by decide +kernel
theorem dX11_init_53 : decode cX11_init 53 = .ok (.invokespecial 39, 3) := by decide +kernel
theorem dX11_init_56 : decode cX11_init 56 = .ok (.putfield 40, 3) := by decide +kernel
theorem dX11_init_59 : decode cX11_init 59 = .ok (.aload_n 0, 1) := by decide +kernel
theorem dX11_init_60 : decode cX11_init 60 = .ok (.new 44, 3) := by decide +kernel
theorem dX11_init_63 : decode cX11_init 63 = .ok (.dup, 1) := by decide +kernel
theorem dX11_init_64 : decode cX11_init 64 = .ok (.invokespecial 46, 3) := by decide +kernel
theorem dX11_init_67 : decode cX11_init 67 = .ok (.putfield 47, 3) := by decide +kernel
theorem dX11_init_70 : decode cX11_init 70 = .ok (.aload_n 0, 1) := by decide +kernel
theorem dX11_init_71 : decode cX11_init 71 = .ok (.new 51, 3) := by decide +kernel
theorem dX11_init_74 : decode cX11_init 74 = .ok (.dup, 1) := by decide +kernel
theorem dX11_init_75 : decode cX11_init 75 = .ok (.bipush 24, 2) := by decide +kernel
theorem dX11_init_77 : decode cX11_init 77 = .ok (.invokespecial 53, 3) := by decide +kernel
theorem dX11_init_80 : decode cX11_init 80 = .ok (.putfield 56, 3) := by decide +kernel
theorem dX11_init_83 : decode cX11_init 83 = .ok (.aload_n 0, 1) := by decide +kernel
theorem dX11_init_84 : decode cX11_init 84 = .ok (.new 51, 3) := by decide +kernel
theorem dX11_init_87 : decode cX11_init 87 = .ok (.dup, 1) := by decide +kernel
theorem dX11_init_88 : decode cX11_init 88 = .ok (.iconst 0, 1) := by decide +kernel
theorem dX11_init_89 : decode cX11_init 89 = .ok (.invokespecial 53, 3) := by decide +kernel
theorem dX11_init_92 : decode cX11_init 92 = .ok (.putfield 60, 3) := by decide +kernel
theorem dX11_init_95 : decode cX11_init 95 = .ok (.aload_n 0, 1) := by decide +kernel
theorem dX11_init_96 : decode cX11_init 96 = .ok (.new 63, 3) := by decide +kernel
theorem dX11_init_99 : decode cX11_init 99 = .ok (.dup, 1) := by decide +kernel
theorem dX11_init_100 : decode cX11_init 100 = .ok (.invokespecial 65, 3) := by decide +kernel
theorem dX11_init_103 : decode cX11_init 103 = .ok (.putfield 66, 3) := by decide +kernel
theorem dX11_init_106 : decode cX11_init 106 = .ok (.return_, 1) := by decide +kernel
theorem dfX9 : ∀ j, j < 8 → defaultValue (tyX9 j) = vp_V [.null, .null, .int 0, .int 0, .int 0, .int 0, .int 0, .long 0] j
  | 0, _ => rfl
  | 1, _ => rfl
  | 2, _ => rfl
  | 3, _ => rfl
  | 4, _ => rfl
  | 5, _ => rfl
  | 6, _ => rfl
  | 7, _ => rfl
  | n + 8, h => absurd h (by omega)
theorem dfX10 : ∀ j, j < 12 → defaultValue (tyX10 j) = vp_V [.null, .null, .null, .null, .null, .null, .null, .int 0, .int 0, .int 0, .int 0, .int 0] j
  | 0, _ => rfl
  | 1, _ => rfl
  | 2, _ => rfl
  | 3, _ => rfl
  | 4, _ => rfl
  | 5, _ => rfl
  | 6, _ => rfl
  | 7, _ => rfl
  | 8, _ => rfl
  | 9, _ => rfl
  | 10, _ => rfl
  | 11, _ => rfl
  | n + 12, h => absurd h (by omega)
theorem dfX6 : ∀ j, j < 4 → defaultValue (tyX6 j) = vp_V [.null, .null, .int 0, .int 0] j
  | 0, _ => rfl
  | 1, _ => rfl
  | 2, _ => rfl
  | 3, _ => rfl
  | n + 4, h => absurd h (by omega)
theorem dfX5 : ∀ j, j < 7 → defaultValue (tyX5 j) = vp_V [.null, .null, .null, .null, .null, .int 0, .int 0] j
  | 0, _ => rfl
  | 1, _ => rfl
  | 2, _ => rfl
  | 3, _ => rfl
  | 4, _ => rfl
  | 5, _ => rfl
  | 6, _ => rfl
  | n + 7, h => absurd h (by omega)
theorem dfX4 : ∀ j, j < 7 → defaultValue (tyX4 j) = vp_V [.null, .null, .null, .null, .null, .null, .null] j
  | 0, _ => rfl
  | 1, _ => rfl
  | 2, _ => rfl
  | 3, _ => rfl
  | 4, _ => rfl
  | 5, _ => rfl
  | 6, _ => rfl
  | n + 7, h => absurd h (by omega)
theorem dfX2 : ∀ j, j < 1 → defaultValue (tyX2 j) = vp_V [.null] j
  | 0, _ => rfl
  | n + 1, h => absurd h (by omega)
theorem dfX3 : ∀ j, j < 3 → defaultValue (tyX3 j) = vp_V [.null, .null, .null] j
  | 0, _ => rfl
  | 1, _ => rfl
  | 2, _ => rfl
  | n + 3, h => absurd h (by omega)
theorem dfX7 : ∀ j, j < 13 → defaultValue (tyX7 j) = vp_V [.null, .null, .null, .null, .null, .null, .null, .null, .null, .int 0, .int 0, .int 0, .int 0] j
  | 0, _ => rfl
  | 1, _ => rfl
  | 2, _ => rfl
  | 3, _ => rfl
  | 4, _ => rfl
  | 5, _ => rfl
  | 6, _ => rfl
  | 7, _ => rfl
  | 8, _ => rfl
  | 9, _ => rfl
  | 10, _ => rfl
  | 11, _ => rfl
  | 12, _ => rfl
  | n + 13, h => absurd h (by omega)
def KEYT : String := "word beside row slip miss draw or and not worth place size times left right"
def SV (kq vq : Nat) (bf : Nat → Int32) (A : Nat → Prop) (U : State) : Prop := va_Z "java/lang/String" "COMPACT_STRINGS" "Z" (.int 1) A U U.heap ∧ va_Zq "jdk/internal/util/Preconditions" "SIOOBE_FORMATTER" "Ljava/util/function/BiFunction;" A U U.heap ∧ vk_R RX9 19 KEYT kq U ∧ va_O "java/lang/String" kq A U U.heap ∧ va_OF "java/lang/String" "coder" "B" (.int 0) kq A U U.heap ∧ va_OF "java/lang/String" "value" "[B" (.ref vq) kq A U U.heap ∧ va_T .byte vq 75 (fun j => .int (bf j)) A U U.heap
theorem SV.step {kq vq : Nat} {bf : Nat → Int32} {A B : Nat → Prop} {s U : State} (h : SV kq vq bf A s) (hW : s.WarmedH U.vm) (hq : ∀ a : Nat, a < s.heap.size → ¬ A a → U.heap[a]? = s.heap[a]?) (hAB : ∀ q, B q → A q) : SV kq vq bf B U :=
  ⟨((h.1.kept hq).moved hW.alike).narrow hAB, ((h.2.1.kept hq).moved hW.alike).narrow hAB, h.2.2.1.warm hW, ((h.2.2.2.1.kept hq).moved hW.alike).narrow hAB, ((h.2.2.2.2.1.kept hq).moved hW.alike).narrow hAB, ((h.2.2.2.2.2.1.kept hq).moved hW.alike).narrow hAB, ((h.2.2.2.2.2.2.kept hq).moved hW.alike).narrow hAB⟩
theorem SV.call {kq vq : Nat} {bf : Nat → Int32} {A : Nat → Prop} {U : State} {g : JFrame} {mk : MethodId} {a : Array Value} (h : SV kq vq bf A U) : SV kq vq bf A (U.calling g mk a) :=
  ⟨h.1.moved (U := U.calling g mk a) (Vm.Alike.refl U.vm), h.2.1.moved (U := U.calling g mk a) (Vm.Alike.refl U.vm), vk_R.same (u := U) (U := U.calling g mk a) rfl h.2.2.1, h.2.2.2.1.moved (U := U.calling g mk a) (Vm.Alike.refl U.vm), h.2.2.2.2.1.moved (U := U.calling g mk a) (Vm.Alike.refl U.vm), h.2.2.2.2.2.1.moved (U := U.calling g mk a) (Vm.Alike.refl U.vm), h.2.2.2.2.2.2.moved (U := U.calling g mk a) (Vm.Alike.refl U.vm)⟩
theorem SV.recv {kq vq : Nat} {bf : Nat → Int32} {A : Nat → Prop} {s : State} (h : SV kq vq bf A s) {H : Heap} (hq : ∀ a : Nat, a < s.heap.size → ¬ A a → H[a]? = s.heap[a]?) : ∃ cell : Cell, H[kq]? = some cell ∧ cell.vm.isStatics = false ∧ s.vm.findClass RJ0 = some cell.cls := by
  obtain ⟨cell, h1, h2, h3, _⟩ := h.2.2.2.1.kept hq
  exact ⟨cell, h1, h2, h3⟩
theorem xa_vin75 {i : Int32} (h0 : 0 ≤ i) (h1 : i < 75) : vp_in i 75 := by
  simp only [Int32.lt_iff_toInt_lt, Int32.le_iff_toInt_le, show ((0 : Int32)).toInt = 0 from by decide +kernel, show ((75 : Int32)).toInt = 75 from by decide +kernel] at h0 h1
  rw [vp_in_iff]
  omega
theorem xa_key {k x z : Int32} (h0 : 0 ≤ k) (h1 : k ≤ x) (c : x < 75) (e : z = k + Int32.ofInt 1) : 0 ≤ z ∧ z ≤ x + Int32.ofInt 1 ∧ k ≤ x + Int32.ofInt 1 := by
  have h3 : (Int32.ofInt 1).toInt = 1 := by decide +kernel
  simp only [Int32.lt_iff_toInt_lt, Int32.le_iff_toInt_le, show ((0 : Int32)).toInt = 0 from by decide +kernel, show ((75 : Int32)).toInt = 75 from by decide +kernel] at h0 h1 c ⊢
  have hz : z.toInt = k.toInt + 1 := by
    rw [e, Int32.toInt_add, h3]
    rw [Int.bmod_eq_of_le] <;> omega
  have hx : (x + Int32.ofInt 1).toInt = x.toInt + 1 := by
    rw [Int32.toInt_add, h3]
    rw [Int.bmod_eq_of_le] <;> omega
  rw [hz, hx]
  refine ⟨?_, ?_, ?_⟩ <;> omega
theorem xa_vin15 {i : Int32} (h0 : 0 ≤ i) (h1 : ¬ 15 ≤ i) : vp_in i 15 := by
  simp only [Int32.le_iff_toInt_le, show ((0 : Int32)).toInt = 0 from by decide +kernel, show ((15 : Int32)).toInt = 15 from by decide +kernel] at h0 h1
  rw [vp_in_iff]
  omega
abbrev wmJ0_charAt_5068e : List Cond := Cond.code yJ0_charAt_5068e cJ0_charAt_5068e 2 (some .char) :: wsL_law
abbrev wmJ0_checkIndex_df160 : List Cond := Cond.code yJ0_checkIndex_df160 cJ0_checkIndex_df160 2 none :: wsL_law
abbrev wmJ1_charAt_3b067 : List Cond := Cond.code yJ1_charAt_3b067 cJ1_charAt_3b067 2 (some .char) :: wsL_law
abbrev wmJ3_checkIndex_8e157 : List Cond := Cond.code yJ3_checkIndex_8e157 cJ3_checkIndex_8e157 3 (some .int) :: wsL_law
abbrev wmX9_init : List Cond := Cond.code yX9_init cX9_init 4 none :: wsL_law
set_option maxHeartbeats 4000000 in
set_option maxRecDepth 100000 in
theorem kJ_coder (l : Launch) (kq vq : Nat) (bf : Nat → Int32) : Met l yJ0_coder_7d493 wmJ0_coder_7d493 ({ frames := 0, cells := 0, slots := 0, locals := 0 }) (va_Pc [.ref kq] (fun U => SV kq vq bf (fun _ => False) U)) (vp_Si (fun r_ => r_ = 0)) 0 0 (fun _ => False) := by
  refine Met.ofW (cc := cJ0_coder_7d493) (maxL := 1) (ret := (some .byte)) (by decide +kernel) rfl ?_
  intro p e s m args below meth c s₁ B hml hv
  obtain ⟨rfl, hV⟩ := hv
  have hx := B.exec
  have hb := B.bytes
  have hr := B.returns
  have hts0 := atoms_spec (ws := wmJ0_coder_7d493) B.pre
  have hts : ∀ w ∈ wsL_law, w.before _ s = true := fun w h => hts0 w (List.mem_cons_of_mem _ h)
  have hown : s.vm.findClass RJ0 = some m.cls := findClass_of_methodNamed B.named
  have hlocks := B.notSynchronized
  have hS : va_S (fun _ => False) s.heap s.heap [] := va_S.rf
  have hl := lv_entry ([.ref kq]) (n := 1) (Nat.le_of_ble_eq_true rfl)
  rw [lg_entry_eq]
  generalize (lg_sl ([.ref kq]) ++ List.replicate (1 - (lg_sl ([.ref kq])).length) Slot.unset).toArray = ls at hl ⊢
  have hl : lv_has ls 1 [(0, .ref kq)] := hl
  refine va_gets (C := "java/lang/String") (n := "COMPACT_STRINGS") (d := "Z") (v := .int 1) hx hb hV.1 hS hown (hts _ m_75) (fun _ h9 => h9) dJ0_coder_7d493_0 ?_
  refine lv_if_eq (tgt := 13) hx hb dJ0_coder_7d493_3 (by decide) (fun c_ => absurd c_ (by decide +kernel)) (fun _ => ?_)
  refine lv_aload_n hx hb dJ0_coder_7d493_6 rfl (lv_at hl 0 rfl) ?_
  refine vk_getf (o := "java/lang/String") (n := "coder") (d := "B") (v := .int 0) hx hb hV.2.2.2.2.1 hS hown (hts _ m_76) (fun _ h9 => h9) dJ0_coder_7d493_7 ?_
  refine lv_goto (tgt := 14) hx hb dJ0_coder_7d493_10 (by decide) ?_
  exact W.zret (v := 0) hx hb hr (by decide +kernel) (fun t ht hW => ⟨0, rfl, rfl, ht⟩) (fun _ h_ => (List.not_mem_nil h_).elim) dJ0_coder_7d493_14
set_option maxHeartbeats 4000000 in
set_option maxRecDepth 100000 in
theorem kJ_isLatin1 (l : Launch) (kq vq : Nat) (bf : Nat → Int32) : Met l yJ0_isLatin1_aae02 wmJ0_isLatin1_aae02 ({ frames := 0, cells := 0, slots := 0, locals := 0 }) (va_Pc [.ref kq] (fun U => SV kq vq bf (fun _ => False) U)) (vp_Si (fun r_ => r_ = 1)) 0 0 (fun _ => False) := by
  refine Met.ofW (cc := cJ0_isLatin1_aae02) (maxL := 1) (ret := (some .boolean)) (by decide +kernel) rfl ?_
  intro p e s m args below meth c s₁ B hml hv
  obtain ⟨rfl, hV⟩ := hv
  have hx := B.exec
  have hb := B.bytes
  have hr := B.returns
  have hts0 := atoms_spec (ws := wmJ0_isLatin1_aae02) B.pre
  have hts : ∀ w ∈ wsL_law, w.before _ s = true := fun w h => hts0 w (List.mem_cons_of_mem _ h)
  have hown : s.vm.findClass RJ0 = some m.cls := findClass_of_methodNamed B.named
  have hlocks := B.notSynchronized
  have hS : va_S (fun _ => False) s.heap s.heap [] := va_S.rf
  have hl := lv_entry ([.ref kq]) (n := 1) (Nat.le_of_ble_eq_true rfl)
  rw [lg_entry_eq]
  generalize (lg_sl ([.ref kq]) ++ List.replicate (1 - (lg_sl ([.ref kq])).length) Slot.unset).toArray = ls at hl ⊢
  have hl : lv_has ls 1 [(0, .ref kq)] := hl
  refine va_gets (C := "java/lang/String") (n := "COMPACT_STRINGS") (d := "Z") (v := .int 1) hx hb hV.1 hS hown (hts _ m_75) (fun _ h9 => h9) dJ0_isLatin1_aae02_0 ?_
  refine lv_if_eq (tgt := 17) hx hb dJ0_isLatin1_aae02_3 (by decide) (fun c_ => absurd c_ (by decide +kernel)) (fun _ => ?_)
  refine lv_aload_n hx hb dJ0_isLatin1_aae02_6 rfl (lv_at hl 0 rfl) ?_
  refine vk_getf (o := "java/lang/String") (n := "coder") (d := "B") (v := .int 0) hx hb hV.2.2.2.2.1 hS hown (hts _ m_76) (fun _ h9 => h9) dJ0_isLatin1_aae02_7 ?_
  refine lv_if_ne (tgt := 17) hx hb dJ0_isLatin1_aae02_10 (by decide) (fun c_ => absurd (by decide +kernel) c_) (fun _ => ?_)
  refine lv_iconst (v := 1) hx hb dJ0_isLatin1_aae02_13 (by decide +kernel) ?_
  refine lv_goto (tgt := 18) hx hb dJ0_isLatin1_aae02_14 (by decide) ?_
  exact W.zret (v := 1) hx hb hr (by decide +kernel) (fun t ht hW => ⟨1, rfl, rfl, ht⟩) (fun _ h_ => (List.not_mem_nil h_).elim) dJ0_isLatin1_aae02_18
set_option maxHeartbeats 4000000 in
set_option maxRecDepth 100000 in
theorem kJ_length (l : Launch) (kq vq : Nat) (bf : Nat → Int32) : Met l yJ0_length_8abf5 wmJ0_length_8abf5 ({ frames := 1, cells := 0, slots := 0, locals := 20 }) (va_Pc [.ref kq] (fun U => SV kq vq bf (fun _ => False) U)) (vp_Si (fun r_ => r_ = 75)) 0 0 (fun _ => False) := by
  refine Met.ofW (cc := cJ0_length_8abf5) (maxL := 1) (ret := (some .int)) (by decide +kernel) rfl ?_
  intro p e s m args below meth c s₁ B hml hv
  obtain ⟨rfl, hV⟩ := hv
  have hx := B.exec
  have hb := B.bytes
  have hr := B.returns
  have hts0 := atoms_spec (ws := wmJ0_length_8abf5) B.pre
  have hts : ∀ w ∈ wsL_law, w.before _ s = true := fun w h => hts0 w (List.mem_cons_of_mem _ h)
  have hown : s.vm.findClass RJ0 = some m.cls := findClass_of_methodNamed B.named
  have hlocks := B.notSynchronized
  have hS : va_S (fun _ => False) s.heap s.heap [] := va_S.rf
  have hl := lv_entry ([.ref kq]) (n := 1) (Nat.le_of_ble_eq_true rfl)
  rw [lg_entry_eq]
  generalize (lg_sl ([.ref kq]) ++ List.replicate (1 - (lg_sl ([.ref kq])).length) Slot.unset).toArray = ls at hl ⊢
  have hl : lv_has ls 1 [(0, .ref kq)] := hl
  refine lv_aload_n hx hb dJ0_length_8abf5_0 rfl (lv_at hl 0 rfl) ?_
  refine vk_getf (o := "java/lang/String") (n := "value") (d := "[B") (v := .ref vq) hx hb hV.2.2.2.2.2.1 hS hown (hts _ m_70) (fun _ h9 => h9) dJ0_length_8abf5_1 ?_
  refine va_tlen (v := 75) hx hb hV.2.2.2.2.2.2 hS (by decide +kernel) dJ0_length_8abf5_4 ?_
  refine lv_aload_n hx hb dJ0_length_8abf5_5 rfl (lv_at hl 0 rfl) ?_
  refine vp_callSi (W.runV (As := []) (rest := [.int 75]) ⟨hx, hb, hml, hown, hts⟩ (kJ_coder l kq vq bf) (cwV 0 hts (gdV m_71 m_72 m_73 m_68 m_74) rfl rfl rfl (by decide +kernel) ⟨Nat.le_of_ble_eq_true rfl, Nat.le_of_ble_eq_true rfl⟩) ⟨fun a U g mk q => by obtain ⟨q0, qV⟩ := q; exact ⟨q0, qV.call⟩, hV.recv (fun _ _ _ => rfl), fun U hU hW => ⟨rfl, hV.step hW (fun a _ _ => by rw [hU]) (fun _ h => h)⟩⟩ rfl rfl hl.1 rfl (lv_room (Nat.le_of_ble_eq_true rfl)) dJ0_length_8abf5_6 ⟨Nat.le_of_ble_eq_true rfl, Nat.le_of_ble_eq_true rfl⟩) (fun r hw => ?_)
  subst r
  refine lv_ishr hx hb dJ0_length_8abf5_9 ?_
  refine lv_topi (fun z ez => ?_)
  obtain rfl : z = 75 := ez.trans (by decide +kernel)
  exact W.iret (v := 75) hx hb hr (fun t ht hW => ⟨75, rfl, rfl, ht⟩) (fun _ h_ => (List.not_mem_nil h_).elim) dJ0_length_8abf5_10
set_option maxHeartbeats 4000000 in
set_option maxRecDepth 100000 in
theorem kJ_ci_null (l : Launch) (i : Int32) (hi0 : 0 ≤ i) (hi1 : i < 75) : Met l yJ3_checkIndex_8e157 wmJ3_checkIndex_8e157 ({ frames := 0, cells := 0, slots := 0, locals := 0 }) (va_Pc [.int i, .int 75, .null] (fun U => True)) (vp_Si (fun r_ => True)) 0 0 (fun _ => False) := by
  refine Met.ofW (cc := cJ3_checkIndex_8e157) (maxL := 3) (ret := (some .int)) (by decide +kernel) rfl ?_
  intro p e s m args below meth c s₁ B hml hv
  obtain ⟨rfl, _⟩ := hv
  have hx := B.exec
  have hb := B.bytes
  have hr := B.returns
  have hts0 := atoms_spec (ws := wmJ3_checkIndex_8e157) B.pre
  have hts : ∀ w ∈ wsL_law, w.before _ s = true := fun w h => hts0 w (List.mem_cons_of_mem _ h)
  have hown : s.vm.findClass RJ3 = some m.cls := findClass_of_methodNamed B.named
  have hlocks := B.notSynchronized
  have hS : va_S (fun _ => False) s.heap s.heap [] := va_S.rf
  have hl := lv_entry ([.int i, .int 75, .null]) (n := 3) (Nat.le_of_ble_eq_true rfl)
  rw [lg_entry_eq]
  generalize (lg_sl ([.int i, .int 75, .null]) ++ List.replicate (3 - (lg_sl ([.int i, .int 75, .null])).length) Slot.unset).toArray = ls at hl ⊢
  have hl : lv_has ls 3 [(0, .int i), (1, .int 75), (2, .null)] := hl
  refine lv_iload_n hx hb dJ3_checkIndex_8e157_0 rfl (lv_at hl 0 rfl) ?_
  refine lv_if_lt (tgt := 9) hx hb dJ3_checkIndex_8e157_1 (by decide) (fun c_ => absurd c_ (Int32.not_lt.mpr hi0)) (fun _ => ?_)
  refine lv_iload_n hx hb dJ3_checkIndex_8e157_4 rfl (lv_at hl 0 rfl) ?_
  refine lv_iload_n hx hb dJ3_checkIndex_8e157_5 rfl (lv_at hl 1 rfl) ?_
  refine lv_icmp_lt (tgt := 16) hx hb dJ3_checkIndex_8e157_6 (by decide) (fun _ => ?_) (fun c_ => absurd hi1 c_)
  refine lv_iload_n hx hb dJ3_checkIndex_8e157_16 rfl (lv_at hl 0 rfl) ?_
  exact W.iret (v := i) hx hb hr (fun t ht hW => ⟨i, rfl, trivial, ht⟩) (fun _ h_ => (List.not_mem_nil h_).elim) dJ3_checkIndex_8e157_17
set_option maxHeartbeats 4000000 in
set_option maxRecDepth 100000 in
theorem kJ_ci_ref (l : Launch) (i : Int32) (t : Nat) (hi0 : 0 ≤ i) (hi1 : i < 75) : Met l yJ3_checkIndex_8e157 wmJ3_checkIndex_8e157 ({ frames := 0, cells := 0, slots := 0, locals := 0 }) (va_Pc [.int i, .int 75, .ref t] (fun U => True)) (vp_Si (fun r_ => True)) 0 0 (fun _ => False) := by
  refine Met.ofW (cc := cJ3_checkIndex_8e157) (maxL := 3) (ret := (some .int)) (by decide +kernel) rfl ?_
  intro p e s m args below meth c s₁ B hml hv
  obtain ⟨rfl, _⟩ := hv
  have hx := B.exec
  have hb := B.bytes
  have hr := B.returns
  have hts0 := atoms_spec (ws := wmJ3_checkIndex_8e157) B.pre
  have hts : ∀ w ∈ wsL_law, w.before _ s = true := fun w h => hts0 w (List.mem_cons_of_mem _ h)
  have hown : s.vm.findClass RJ3 = some m.cls := findClass_of_methodNamed B.named
  have hlocks := B.notSynchronized
  have hS : va_S (fun _ => False) s.heap s.heap [] := va_S.rf
  have hl := lv_entry ([.int i, .int 75, .ref t]) (n := 3) (Nat.le_of_ble_eq_true rfl)
  rw [lg_entry_eq]
  generalize (lg_sl ([.int i, .int 75, .ref t]) ++ List.replicate (3 - (lg_sl ([.int i, .int 75, .ref t])).length) Slot.unset).toArray = ls at hl ⊢
  have hl : lv_has ls 3 [(0, .int i), (1, .int 75), (2, .ref t)] := hl
  refine lv_iload_n hx hb dJ3_checkIndex_8e157_0 rfl (lv_at hl 0 rfl) ?_
  refine lv_if_lt (tgt := 9) hx hb dJ3_checkIndex_8e157_1 (by decide) (fun c_ => absurd c_ (Int32.not_lt.mpr hi0)) (fun _ => ?_)
  refine lv_iload_n hx hb dJ3_checkIndex_8e157_4 rfl (lv_at hl 0 rfl) ?_
  refine lv_iload_n hx hb dJ3_checkIndex_8e157_5 rfl (lv_at hl 1 rfl) ?_
  refine lv_icmp_lt (tgt := 16) hx hb dJ3_checkIndex_8e157_6 (by decide) (fun _ => ?_) (fun c_ => absurd hi1 c_)
  refine lv_iload_n hx hb dJ3_checkIndex_8e157_16 rfl (lv_at hl 0 rfl) ?_
  exact W.iret (v := i) hx hb hr (fun t ht hW => ⟨i, rfl, trivial, ht⟩) (fun _ h_ => (List.not_mem_nil h_).elim) dJ3_checkIndex_8e157_17
set_option maxHeartbeats 4000000 in
set_option maxRecDepth 100000 in
theorem kJ_checkIndex (l : Launch) (kq vq : Nat) (bf : Nat → Int32) (i : Int32) (hi0 : 0 ≤ i) (hi1 : i < 75) : Met l yJ0_checkIndex_df160 wmJ0_checkIndex_df160 ({ frames := 1, cells := 0, slots := 0, locals := 22 }) (va_Pc [.int i, .int 75] (fun U => SV kq vq bf (fun _ => False) U)) (va_Sv (fun _ => True)) 0 0 (fun _ => False) := by
  refine Met.ofW (cc := cJ0_checkIndex_df160) (maxL := 2) (ret := none) (by decide +kernel) rfl ?_
  intro p e s m args below meth c s₁ B hml hv
  obtain ⟨rfl, hV⟩ := hv
  have hx := B.exec
  have hb := B.bytes
  have hr := B.returns
  have hts0 := atoms_spec (ws := wmJ0_checkIndex_df160) B.pre
  have hts : ∀ w ∈ wsL_law, w.before _ s = true := fun w h => hts0 w (List.mem_cons_of_mem _ h)
  have hown : s.vm.findClass RJ0 = some m.cls := findClass_of_methodNamed B.named
  have hlocks := B.notSynchronized
  have hS : va_S (fun _ => False) s.heap s.heap [] := va_S.rf
  have hl := lv_entry ([.int i, .int 75]) (n := 2) (Nat.le_of_ble_eq_true rfl)
  rw [lg_entry_eq]
  generalize (lg_sl ([.int i, .int 75]) ++ List.replicate (2 - (lg_sl ([.int i, .int 75])).length) Slot.unset).toArray = ls at hl ⊢
  have hl : lv_has ls 2 [(0, .int i), (1, .int 75)] := hl
  refine lv_iload_n hx hb dJ0_checkIndex_df160_0 rfl (lv_at hl 0 rfl) ?_
  refine lv_iload_n hx hb dJ0_checkIndex_df160_1 rfl (lv_at hl 1 rfl) ?_
  rcases hV.2.1 with hz | ⟨t, hz⟩
  · refine va_gets (C := "jdk/internal/util/Preconditions") (n := "SIOOBE_FORMATTER") (d := "Ljava/util/function/BiFunction;") (v := .null) hx hb hz hS hown (hts _ m_92) (fun _ h9 => h9) dJ0_checkIndex_df160_2 ?_
    refine vp_callSi (W.runS (As := [.int i, .int 75, .null]) (rest := []) ⟨hx, hb, hml, hown, hts⟩ (kJ_ci_null l i hi0 hi1) (va_cwS 3 hts (gdS m_93 m_94 m_95 m_96) rfl rfl rfl (by decide +kernel) ⟨Nat.le_of_ble_eq_true rfl, Nat.le_of_ble_eq_true rfl⟩) ⟨fun _ _ _ _ q => q, fun U hU hW => ⟨rfl, trivial⟩⟩ rfl rfl hl.1 rfl (lv_room (Nat.le_of_ble_eq_true rfl)) dJ0_checkIndex_df160_5 ⟨Nat.le_of_ble_eq_true rfl, Nat.le_of_ble_eq_true rfl⟩) (fun r hw => ?_)
    refine lv_pop hx hb dJ0_checkIndex_df160_8 rfl ?_
    exact W.vret hx hb hr (fun t ht hW => ⟨rfl, trivial, ht⟩) (fun _ h_ => (List.not_mem_nil h_).elim) dJ0_checkIndex_df160_9
  · refine va_gets (C := "jdk/internal/util/Preconditions") (n := "SIOOBE_FORMATTER") (d := "Ljava/util/function/BiFunction;") (v := .ref t) hx hb hz hS hown (hts _ m_92) (fun _ h9 => h9) dJ0_checkIndex_df160_2 ?_
    refine vp_callSi (W.runS (As := [.int i, .int 75, .ref t]) (rest := []) ⟨hx, hb, hml, hown, hts⟩ (kJ_ci_ref l i t hi0 hi1) (va_cwS 3 hts (gdS m_93 m_94 m_95 m_96) rfl rfl rfl (by decide +kernel) ⟨Nat.le_of_ble_eq_true rfl, Nat.le_of_ble_eq_true rfl⟩) ⟨fun _ _ _ _ q => q, fun U hU hW => ⟨rfl, trivial⟩⟩ rfl rfl hl.1 rfl (lv_room (Nat.le_of_ble_eq_true rfl)) dJ0_checkIndex_df160_5 ⟨Nat.le_of_ble_eq_true rfl, Nat.le_of_ble_eq_true rfl⟩) (fun r hw => ?_)
    refine lv_pop hx hb dJ0_checkIndex_df160_8 rfl ?_
    exact W.vret hx hb hr (fun t ht hW => ⟨rfl, trivial, ht⟩) (fun _ h_ => (List.not_mem_nil h_).elim) dJ0_checkIndex_df160_9
set_option maxHeartbeats 4000000 in
set_option maxRecDepth 100000 in
theorem kJ_charAt1 (l : Launch) (kq vq : Nat) (bf : Nat → Int32) (i : Int32) (hi0 : 0 ≤ i) (hi1 : i < 75) : Met l yJ1_charAt_3b067 wmJ1_charAt_3b067 ({ frames := 2, cells := 0, slots := 0, locals := 43 }) (va_Pc [.ref vq, .int i] (fun U => SV kq vq bf (fun _ => False) U)) (vp_Si (fun r_ => narrow .char (.int r_) = .int r_)) 0 0 (fun _ => False) := by
  refine Met.ofW (cc := cJ1_charAt_3b067) (maxL := 2) (ret := (some .char)) (by decide +kernel) rfl ?_
  intro p e s m args below meth c s₁ B hml hv
  obtain ⟨rfl, hV⟩ := hv
  have hx := B.exec
  have hb := B.bytes
  have hr := B.returns
  have hts0 := atoms_spec (ws := wmJ1_charAt_3b067) B.pre
  have hts : ∀ w ∈ wsL_law, w.before _ s = true := fun w h => hts0 w (List.mem_cons_of_mem _ h)
  have hown : s.vm.findClass RJ1 = some m.cls := findClass_of_methodNamed B.named
  have hlocks := B.notSynchronized
  have hS : va_S (fun _ => False) s.heap s.heap [] := va_S.rf
  have hl := lv_entry ([.ref vq, .int i]) (n := 2) (Nat.le_of_ble_eq_true rfl)
  rw [lg_entry_eq]
  generalize (lg_sl ([.ref vq, .int i]) ++ List.replicate (2 - (lg_sl ([.ref vq, .int i])).length) Slot.unset).toArray = ls at hl ⊢
  have hl : lv_has ls 2 [(0, .ref vq), (1, .int i)] := hl
  refine lv_iload_n hx hb dJ1_charAt_3b067_0 rfl (lv_at hl 1 rfl) ?_
  refine lv_aload_n hx hb dJ1_charAt_3b067_1 rfl (lv_at hl 0 rfl) ?_
  refine va_tlen (v := 75) hx hb hV.2.2.2.2.2.2 hS (by decide +kernel) dJ1_charAt_3b067_2 ?_
  refine va_csv (W.runS (As := [.int i, .int 75]) (rest := []) ⟨hx, hb, hml, hown, hts⟩ (kJ_checkIndex l kq vq bf i hi0 hi1) (va_cwS 2 hts (gdS m_89 m_90 m_68 m_91) rfl rfl rfl (by decide +kernel) ⟨Nat.le_of_ble_eq_true rfl, Nat.le_of_ble_eq_true rfl⟩) ⟨fun a U g mk q => by obtain ⟨q0, qV⟩ := q; exact ⟨q0, qV.call⟩, fun U hU hW => ⟨rfl, hV.step hW (fun a _ _ => by rw [hU]) (fun _ h => h)⟩⟩ rfl rfl hl.1 rfl (lv_room (Nat.le_of_ble_eq_true rfl)) dJ1_charAt_3b067_3 ⟨Nat.le_of_ble_eq_true rfl, Nat.le_of_ble_eq_true rfl⟩) (fun _ => ?_)
  refine lv_aload_n hx hb dJ1_charAt_3b067_6 rfl (lv_at hl 0 rfl) ?_
  refine lv_iload_n hx hb dJ1_charAt_3b067_7 rfl (lv_at hl 1 rfl) ?_
  refine va_tb hx hb hV.2.2.2.2.2.2 hS (xa_vin75 hi0 hi1) rfl dJ1_charAt_3b067_8 ?_
  refine lv_sipush (v := 255) hx hb dJ1_charAt_3b067_9 (by decide +kernel) ?_
  refine lv_iand hx hb dJ1_charAt_3b067_12 ?_
  refine lv_i2c hx hb dJ1_charAt_3b067_13 rfl ?_
  exact W.zret hx hb hr (pk_nc _) (fun t ht hW => ⟨_, rfl, pk_nc _, ht⟩) (fun _ h_ => (List.not_mem_nil h_).elim) dJ1_charAt_3b067_14
set_option maxHeartbeats 4000000 in
set_option maxRecDepth 100000 in
theorem kJ_charAt (l : Launch) (kq vq : Nat) (bf : Nat → Int32) (i : Int32) (hi0 : 0 ≤ i) (hi1 : i < 75) : Met l yJ0_charAt_5068e wmJ0_charAt_5068e ({ frames := 3, cells := 0, slots := 0, locals := 64 }) (va_Pc [.ref kq, .int i] (fun U => SV kq vq bf (fun _ => False) U)) (vp_Si (fun r_ => narrow .char (.int r_) = .int r_)) 0 0 (fun _ => False) := by
  refine Met.ofW (cc := cJ0_charAt_5068e) (maxL := 2) (ret := (some .char)) (by decide +kernel) rfl ?_
  intro p e s m args below meth c s₁ B hml hv
  obtain ⟨rfl, hV⟩ := hv
  have hx := B.exec
  have hb := B.bytes
  have hr := B.returns
  have hts0 := atoms_spec (ws := wmJ0_charAt_5068e) B.pre
  have hts : ∀ w ∈ wsL_law, w.before _ s = true := fun w h => hts0 w (List.mem_cons_of_mem _ h)
  have hown : s.vm.findClass RJ0 = some m.cls := findClass_of_methodNamed B.named
  have hlocks := B.notSynchronized
  have hS : va_S (fun _ => False) s.heap s.heap [] := va_S.rf
  have hl := lv_entry ([.ref kq, .int i]) (n := 2) (Nat.le_of_ble_eq_true rfl)
  rw [lg_entry_eq]
  generalize (lg_sl ([.ref kq, .int i]) ++ List.replicate (2 - (lg_sl ([.ref kq, .int i])).length) Slot.unset).toArray = ls at hl ⊢
  have hl : lv_has ls 2 [(0, .ref kq), (1, .int i)] := hl
  refine lv_aload_n hx hb dJ0_charAt_5068e_0 rfl (lv_at hl 0 rfl) ?_
  refine vp_callSi (W.runV (As := []) (rest := []) ⟨hx, hb, hml, hown, hts⟩ (kJ_isLatin1 l kq vq bf) (cwV 0 hts (gdV m_81 m_82 m_83 m_68 m_84) rfl rfl rfl (by decide +kernel) ⟨Nat.le_of_ble_eq_true rfl, Nat.le_of_ble_eq_true rfl⟩) ⟨fun a U g mk q => by obtain ⟨q0, qV⟩ := q; exact ⟨q0, qV.call⟩, hV.recv (fun _ _ _ => rfl), fun U hU hW => ⟨rfl, hV.step hW (fun a _ _ => by rw [hU]) (fun _ h => h)⟩⟩ rfl rfl hl.1 rfl (lv_room (Nat.le_of_ble_eq_true rfl)) dJ0_charAt_5068e_1 ⟨Nat.le_of_ble_eq_true rfl, Nat.le_of_ble_eq_true rfl⟩) (fun r hw => ?_)
  subst r
  refine lv_if_eq (tgt := 16) hx hb dJ0_charAt_5068e_4 (by decide) (fun c_ => absurd c_ (by decide +kernel)) (fun _ => ?_)
  refine lv_aload_n hx hb dJ0_charAt_5068e_7 rfl (lv_at hl 0 rfl) ?_
  refine vk_getf (o := "java/lang/String") (n := "value") (d := "[B") (v := .ref vq) hx hb hV.2.2.2.2.2.1 hS hown (hts _ m_70) (fun _ h9 => h9) dJ0_charAt_5068e_8 ?_
  refine lv_iload_n hx hb dJ0_charAt_5068e_11 rfl (lv_at hl 1 rfl) ?_
  refine vp_callSi (W.runS (As := [.ref vq, .int i]) (rest := []) ⟨hx, hb, hml, hown, hts⟩ (kJ_charAt1 l kq vq bf i hi0 hi1) (va_cwS 2 hts (gdS m_85 m_86 m_87 m_88) rfl rfl rfl (by decide +kernel) ⟨Nat.le_of_ble_eq_true rfl, Nat.le_of_ble_eq_true rfl⟩) ⟨fun a U g mk q => by obtain ⟨q0, qV⟩ := q; exact ⟨q0, qV.call⟩, fun U hU hW => ⟨rfl, hV.step hW (fun a _ _ => by rw [hU]) (fun _ h => h)⟩⟩ rfl rfl hl.1 rfl (lv_room (Nat.le_of_ble_eq_true rfl)) dJ0_charAt_5068e_12 ⟨Nat.le_of_ble_eq_true rfl, Nat.le_of_ble_eq_true rfl⟩) (fun r hw => ?_)
  exact W.zret (v := r) hx hb hr hw (fun t ht hW => ⟨r, rfl, hw, ht⟩) (fun _ h_ => (List.not_mem_nil h_).elim) dJ0_charAt_5068e_15
set_option maxHeartbeats 4000000 in
set_option maxRecDepth 100000 in
theorem lpX9_init {p : Program} {l : Launch} {e : Env} {R : Room} {s : State} {m : MethodId} {args : Array Value} {below : List Frame} {meth : Method} {c : Code} {Q : State → Prop} {A : Nat → Prop} (dC : Nat → ClassId) (dI : Nat → Nat → Nat) (cy : Nat → ClassId) (h0 q1 q2 : Nat) (kq vq : Nat) (bf : Nat → Int32) (hx : p.tables.exec = Jvm.exec) (hb : c.code = cX9_init) (hml : c.maxLocals = 4) (hown : s.vm.findClass RX9 = some m.cls) (hts : ∀ w ∈ wsL_law, w.before args s = true) (hE : EV dC dI cy s) (hV : SV kq vq bf A s) (hRf : 4 ≤ R.frames) (hRl : 85 ≤ R.locals) (hRc : 2 ≤ R.cells) (hRs : 1615 ≤ R.slots) (kk : ∀ (x y : Int32) (fl : Nat → Int64) (ls : Array Slot) (H : Heap) (locs : List Loc), va_P (dC, dI) classes [(h0, .inr (9, [.ref q1, .ref q2, .int 0, .int 0, .int 0, .int 0, .int 0, .long 0])), (q1, .inl (cy 2, 1600, .inl (fun _ => 0))), (q2, .inl (cy 1, 15, .inr (.inl fl)))] H → va_D A [(h0, .inr (9, [.ref q1, .ref q2, .int 0, .int 0, .int 0, .int 0, .int 0, .long 0])), (q1, .inl (cy 2, 1600, .inl (fun _ => 0))), (q2, .inl (cy 1, 15, .inr (.inl fl)))] → va_S A s.heap H locs → lv_has ls 4 [(2, .int x), (1, .int y), (0, .ref h0)] → W p l e R s m args below meth c H locs 2 1615 Q (F0 m 86 ls [])) : ∀ (n : Nat) (x y : Int32) (fl : Nat → Int64) (ls : Array Slot) (H : Heap) (locs : List Loc), 0 ≤ x → 0 ≤ y → y ≤ x → ((75 : Int32).toInt - x.toInt).toNat < n → va_P (dC, dI) classes [(h0, .inr (9, [.ref q1, .ref q2, .int 0, .int 0, .int 0, .int 0, .int 0, .long 0])), (q1, .inl (cy 2, 1600, .inl (fun _ => 0))), (q2, .inl (cy 1, 15, .inr (.inl fl)))] H → va_D A [(h0, .inr (9, [.ref q1, .ref q2, .int 0, .int 0, .int 0, .int 0, .int 0, .long 0])), (q1, .inl (cy 2, 1600, .inl (fun _ => 0))), (q2, .inl (cy 1, 15, .inr (.inl fl)))] → va_S A s.heap H locs → lv_has ls 4 [(2, .int x), (1, .int y), (0, .ref h0)] → W p l e R s m args below meth c H locs 2 1615 Q (F0 m 25 ls []) := by
  intro n
  induction n with
  | zero => intro x y fl ls H locs _ _ _ hm; exact absurd hm (Nat.not_lt_zero _)
  | succ n ih =>
    intro x y fl ls H locs hlo hy0 hy1 hm hP hD hS hl
    refine lv_iload_n hx hb dX9_init_25 rfl (lv_at hl 0 rfl) ?_
    refine va_ldcS hx hb hown hV.2.2.1 dX9_init_26 ?_
    refine vp_callSi (W.runV (As := []) (rest := [.int x]) ⟨hx, hb, hml, hown, hts⟩ (kJ_length l kq vq bf) (cwV 0 hts (gdV m_65 m_66 m_67 m_68 m_69) rfl rfl rfl (by decide +kernel) ⟨Nat.le_trans (Nat.le_of_ble_eq_true rfl) hRf, Nat.le_trans (Nat.le_of_ble_eq_true rfl) hRl⟩) ⟨fun a U g mk q => by obtain ⟨q0, qV⟩ := q; exact ⟨q0, qV.call⟩, hV.recv hS.2.1, fun U hU hW => ⟨rfl, hV.step hW (fun a h1 h2 => by rw [hU]; exact hS.2.1 a h1 h2) (fun _ h => h.elim)⟩⟩ rfl rfl hl.1 rfl (lv_room (Nat.le_of_ble_eq_true rfl)) dX9_init_28 ⟨hRc, hRs⟩) (fun r hw => ?_)
    subst r
    refine lv_icmp_ge (tgt := 86) hx hb dX9_init_31 (by decide) (fun c_1 => ?_) (fun c_1 => ?_)
    · exact kk x y fl ls _ _ hP hD hS hl
    have hlt : x < 75 := Int32.not_le.mp c_1
    refine va_ldcS hx hb hown hV.2.2.1 dX9_init_34 ?_
    refine lv_iload_n hx hb dX9_init_36 rfl (lv_at hl 0 rfl) ?_
    refine vp_callSi (W.runV (As := [.int x]) (rest := []) ⟨hx, hb, hml, hown, hts⟩ (kJ_charAt l kq vq bf x hlo hlt) (cwV 1 hts (gdV m_77 m_78 m_79 m_68 m_80) rfl rfl rfl (by decide +kernel) ⟨Nat.le_trans (Nat.le_of_ble_eq_true rfl) hRf, Nat.le_trans (Nat.le_of_ble_eq_true rfl) hRl⟩) ⟨fun a U g mk q => by obtain ⟨q0, qV⟩ := q; exact ⟨q0, qV.call⟩, hV.recv hS.2.1, fun U hU hW => ⟨rfl, hV.step hW (fun a h1 h2 => by rw [hU]; exact hS.2.1 a h1 h2) (fun _ h => h.elim)⟩⟩ rfl rfl hl.1 rfl (lv_room (Nat.le_of_ble_eq_true rfl)) dX9_init_37 ⟨hRc, hRs⟩) (fun ch hw => ?_)
    refine lv_istore_n (lv' := [(3, .int ch), (2, .int x), (1, .int y), (0, .ref h0)]) hx hb dX9_init_40 rfl hl (by decide) rfl (fun ls hl => ?_)
    obtain ⟨zx, ezx⟩ : ∃ z : Int32, z = x + Int32.ofInt 1 := ⟨_, rfl⟩
    obtain ⟨hs1, hs2⟩ := xl_step hlo hlt ezx hm
    have tl : ∀ (y2 : Int32) (f2 : Nat → Int64) (ls : Array Slot) (H : Heap) (locs : List Loc), 0 ≤ y2 → y2 ≤ zx → va_P (dC, dI) classes [(h0, .inr (9, [.ref q1, .ref q2, .int 0, .int 0, .int 0, .int 0, .int 0, .long 0])), (q1, .inl (cy 2, 1600, .inl (fun _ => 0))), (q2, .inl (cy 1, 15, .inr (.inl f2)))] H → va_D A [(h0, .inr (9, [.ref q1, .ref q2, .int 0, .int 0, .int 0, .int 0, .int 0, .long 0])), (q1, .inl (cy 2, 1600, .inl (fun _ => 0))), (q2, .inl (cy 1, 15, .inr (.inl f2)))] → va_S A s.heap H locs → lv_has ls 4 [(2, .int x), (1, .int y2), (0, .ref h0)] → W p l e R s m args below meth c H locs 2 1615 Q (F0 m 80 ls []) := by
      intro y2 f2 ls H locs ha hbq hP hD hS hl
      refine lv_iinc (v := zx) (lv' := [(2, .int zx), (1, .int y2), (0, .ref h0)]) hx hb dX9_init_80 hl (k := 0) rfl (by rw [ezx]) (by decide) rfl (fun ls hl => ?_)
      refine lv_goto (tgt := 25) hx hb dX9_init_83 (by decide) ?_
      exact ih zx y2 f2 ls _ _ hs1 ha hbq hs2 hP hD hS hl
    obtain ⟨zy, ezy⟩ : ∃ z : Int32, z = y + Int32.ofInt 1 := ⟨_, rfl⟩
    obtain ⟨hk1, hk2, hk3⟩ := xa_key hy0 hy1 hlt ezy
    rw [← ezx] at hk2 hk3
    refine lv_iload_n hx hb dX9_init_41 rfl (lv_at hl 0 rfl) ?_
    refine lv_bipush (v := 32) hx hb dX9_init_42 (by decide +kernel) ?_
    refine lv_icmp_ne (tgt := 53) hx hb dX9_init_44 (by decide) (fun c_2 => ?_) (fun c_2 => ?_)
    · refine lv_iload_n hx hb dX9_init_53 rfl (lv_at hl 2 rfl) ?_
      refine lv_aload_n hx hb dX9_init_54 rfl (lv_at hl 3 rfl) ?_
      refine va_get (D := (dC, dI)) (ci := 9) (v := .ref q2) (C := RX9) (T := TX9) (N := 8) hx hb hts inlX9 hown hE.1 hP 0 rfl rfl 1 (by decide) (hts _ m_64) (fun _ h9 => h9) rfl dX9_init_55 ?_
      refine va_alen (v := 15) hx hb hE.1 hP 2 1 rfl rfl rfl dX9_init_58 ?_
      refine lv_icmp_ge (tgt := 80) hx hb dX9_init_59 (by decide) (fun c_3 => ?_) (fun c_3 => ?_)
      · exact tl y fl ls _ _ hy0 hk3 hP hD hS (lv_sub hl [1, 2, 3] rfl)
      refine lv_aload_n hx hb dX9_init_62 rfl (lv_at hl 3 rfl) ?_
      refine va_get (D := (dC, dI)) (ci := 9) (v := .ref q2) (C := RX9) (T := TX9) (N := 8) hx hb hts inlX9 hown hE.1 hP 0 rfl rfl 1 (by decide) (hts _ m_64) (fun _ h9 => h9) rfl dX9_init_63 ?_
      refine lv_iload_n hx hb dX9_init_66 rfl (lv_at hl 2 rfl) ?_
      refine lv_aload_n hx hb dX9_init_67 rfl (lv_at hl 3 rfl) ?_
      refine va_get (D := (dC, dI)) (ci := 9) (v := .ref q2) (C := RX9) (T := TX9) (N := 8) hx hb hts inlX9 hown hE.1 hP 0 rfl rfl 1 (by decide) (hts _ m_64) (fun _ h9 => h9) rfl dX9_init_68 ?_
      refine lv_iload_n hx hb dX9_init_71 rfl (lv_at hl 2 rfl) ?_
      refine va_lald hx hb hE.1 hP 2 1 rfl rfl (xa_vin15 hy0 c_3) dX9_init_72 ?_
      refine lv_topl (fun w1 ew1 => ?_)
      refine lv_bipush (v := 8) hx hb dX9_init_73 (by decide +kernel) ?_
      refine lv_lshl hx hb dX9_init_75 rfl ?_
      refine lv_iload_n hx hb dX9_init_76 rfl (lv_at hl 0 rfl) ?_
      refine lv_i2l hx hb dX9_init_77 rfl ?_
      refine lv_lor hx hb dX9_init_78 ?_
      refine lv_topl (fun w2 ew2 => ?_)
      refine va_last hx hb hE.1 hP hD hS 2 1 rfl rfl (xa_vin15 hy0 c_3) dX9_init_79 (fun H locs hP hD hS => ?_)
      generalize vp_updL fl (Int32.toNatClampNeg y) w2 = f2 at hP hD
      exact tl y f2 ls _ _ hy0 hk3 hP hD hS (lv_sub hl [1, 2, 3] rfl)
    · refine lv_iinc (v := zy) (lv' := [(1, .int zy), (3, .int ch), (2, .int x), (0, .ref h0)]) hx hb dX9_init_47 hl (k := 2) rfl (by rw [ezy]) (by decide) rfl (fun ls hl => ?_)
      refine lv_goto (tgt := 80) hx hb dX9_init_50 (by decide) ?_
      exact tl zy fl ls _ _ hk1 hk2 hP hD hS (lv_sub hl [2, 0, 3] rfl)
set_option maxHeartbeats 4000000 in
set_option maxRecDepth 100000 in
theorem kX9_init_1 (l : Launch) (dC : Nat → ClassId) (dI : Nat → Nat → Nat) (cy : Nat → ClassId) (h0 : Nat) (sz : Nat) (kq vq : Nat) (bf : Nat → Int32) : Met l yX9_init wmX9_init ({ frames := 4, cells := 2, slots := 1615, locals := 85 }) (va_Pc [.ref h0] (fun U => U.heap.size = sz ∧ va_P (dC, dI) classes [(h0, .inr (9, [.null, .null, .int 0, .int 0, .int 0, .int 0, .int 0, .long 0]))] U.heap ∧ EV dC dI cy U ∧ va_D (fun _ => True) [(h0, .inr (9, [.null, .null, .int 0, .int 0, .int 0, .int 0, .int 0, .long 0]))] ∧ SV kq vq bf (va_A [(h0, .inr (9, [.null, .null, .int 0, .int 0, .int 0, .int 0, .int 0, .long 0]))] sz) U)) (va_Qv (S := Unit) (fun _ => True) (fun _ t => ∃ (q_1 : Nat) (q_2 : Nat) (fl : Nat → Int64), va_P (dC, dI) classes [(h0, .inr (9, [.ref q_1, .ref q_2, .int 0, .int 0, .int 0, .int 0, .int 0, .long 0])), (q_1, .inl (cy 2, 1600, .inl (fun _ => 0))), (q_2, .inl (cy 1, 15, .inr (.inl (fl))))] t.heap ∧ va_D (va_A [(h0, .inr (9, [.null, .null, .int 0, .int 0, .int 0, .int 0, .int 0, .long 0]))] sz) [(h0, .inr (9, [.ref q_1, .ref q_2, .int 0, .int 0, .int 0, .int 0, .int 0, .long 0])), (q_1, .inl (cy 2, 1600, .inl (fun _ => 0))), (q_2, .inl (cy 1, 15, .inr (.inl (fl))))]) (va_A [(h0, .inr (9, [.null, .null, .int 0, .int 0, .int 0, .int 0, .int 0, .long 0]))] sz)) 2 1615 (va_A [(h0, .inr (9, [.null, .null, .int 0, .int 0, .int 0, .int 0, .int 0, .long 0]))] sz) := by
  refine Met.ofW (cc := cX9_init) (maxL := 4) (ret := none) (by decide +kernel) rfl ?_
  intro p e s m args below meth c s₁ B hml hv
  obtain ⟨rfl, hsz, hP, hE, hD0, hV⟩ := hv
  have hK := hE.1
  have hN := hE.2.1
  have hx := B.exec
  have hb := B.bytes
  have hr := B.returns
  have hts0 := atoms_spec (ws := wmX9_init) B.pre
  have hts : ∀ w ∈ wsL_law, w.before _ s = true := fun w h => hts0 w (List.mem_cons_of_mem _ h)
  have hown : s.vm.findClass RX9 = some m.cls := findClass_of_methodNamed B.named
  have hlocks := B.notSynchronized
  have hin : meth.name = "<init>" := (name_of_methodNamed B.named B.method).1
  subst hsz
  have hD := hD0.self (sz := s.heap.size)
  generalize hAe : va_A [(h0, .inr (9, [.null, .null, .int 0, .int 0, .int 0, .int 0, .int 0, .long 0]))] s.heap.size = A at hD hV ⊢
  have hA : ∀ q : Nat, s.heap.size ≤ q → A q := fun q h => by rw [← hAe]; exact Or.inr h
  have hS : va_S A s.heap s.heap [] := va_S.rf
  have hP : va_P (dC, dI) classes [(h0, .inr (9, [.null, .null, .int 0, .int 0, .int 0, .int 0, .int 0, .long 0]))] s.heap := hP
  have hl := lv_entry ([.ref h0]) (n := 4) (Nat.le_of_ble_eq_true rfl)
  rw [lg_entry_eq]
  generalize (lg_sl ([.ref h0]) ++ List.replicate (4 - (lg_sl ([.ref h0])).length) Slot.unset).toArray = ls at hl ⊢
  have hl : lv_has ls 4 [(0, .ref h0)] := hl
  refine lv_aload_n hx hb dX9_init_0 rfl (lv_at hl 0 rfl) ?_
  refine W.objInit hx hb hown (hts _ m_60) (hts _ m_10) (hts _ m_11) rfl (by rw [hml]; exact hl.1) rfl dX9_init_1 (Nat.le_of_ble_eq_true rfl) (Nat.le_of_ble_eq_true rfl) ?_
  refine W.eq (g2 := F0 m 4 ls []) rfl ?_
  refine lv_aload_n hx hb dX9_init_4 rfl (lv_at hl 0 rfl) ?_
  refine lv_sipush (v := 1600) hx hb dX9_init_5 (by decide +kernel) ?_
  refine xa_newa (atype := .byte) (ty := .byte) (c0 := cy 2) (a0 := (1600, .inl (fun _ => 0))) hx hb (hts _ m_61) rfl hK 2 rfl hP hD hS hA (xa_zB 1600) (by decide +kernel) (by decide +kernel) (by decide +kernel) (show 0 + 1 ≤ 2 from by decide +kernel) (show 0 + 1600 ≤ 1615 from by decide +kernel) dX9_init_8 (fun q_1 H hP hD hS => ?_)
  have hP : va_P (dC, dI) classes [(h0, .inr (9, [.null, .null, .int 0, .int 0, .int 0, .int 0, .int 0, .long 0])), (q_1, .inl (cy 2, 1600, .inl (fun _ => 0)))] H := hP
  have hD : va_D A [(h0, .inr (9, [.null, .null, .int 0, .int 0, .int 0, .int 0, .int 0, .long 0])), (q_1, .inl (cy 2, 1600, .inl (fun _ => 0)))] := hD
  refine W.widen (k := 1) (n := 1600) (by decide +kernel) (by decide +kernel) ?_
  refine va_putF (D := (dC, dI)) (ci := 9) (v := .ref q_1) (ty := (tyX9 0)) (C := RX9) (T := TX9) (N := 8) hx hb hts inlX9 tyX9 tyX9_ok nmX9 hown hK hP hD hS 0 rfl rfl 0 (by decide) (hts _ m_62) (fun _ h9 => h9) rfl hin rfl (by decide +kernel) rfl rfl (Nat.le_of_ble_eq_true rfl) dX9_init_10 (fun H locs hP hD hS => ?_)
  have hP : va_P (dC, dI) classes [(h0, .inr (9, [.ref q_1, .null, .int 0, .int 0, .int 0, .int 0, .int 0, .long 0])), (q_1, .inl (cy 2, 1600, .inl (fun _ => 0)))] H := hP
  have hD : va_D A [(h0, .inr (9, [.ref q_1, .null, .int 0, .int 0, .int 0, .int 0, .int 0, .long 0])), (q_1, .inl (cy 2, 1600, .inl (fun _ => 0)))] := hD
  refine lv_aload_n hx hb dX9_init_13 rfl (lv_at hl 0 rfl) ?_
  refine lv_bipush (v := 15) hx hb dX9_init_14 (by decide +kernel) ?_
  refine xa_newa (atype := .long) (ty := .long) (c0 := cy 1) (a0 := (15, .inr (.inl (fun _ => 0)))) hx hb (hts _ m_63) rfl hK 1 rfl hP hD hS hA (xa_zJ 15) (by decide +kernel) (by decide +kernel) (by decide +kernel) (show 1 + 1 ≤ 2 from by decide +kernel) (show 1600 + 15 ≤ 1615 from by decide +kernel) dX9_init_16 (fun q_2 H hP hD hS => ?_)
  have hP : va_P (dC, dI) classes [(h0, .inr (9, [.ref q_1, .null, .int 0, .int 0, .int 0, .int 0, .int 0, .long 0])), (q_1, .inl (cy 2, 1600, .inl (fun _ => 0))), (q_2, .inl (cy 1, 15, .inr (.inl (fun _ => 0))))] H := hP
  have hD : va_D A [(h0, .inr (9, [.ref q_1, .null, .int 0, .int 0, .int 0, .int 0, .int 0, .long 0])), (q_1, .inl (cy 2, 1600, .inl (fun _ => 0))), (q_2, .inl (cy 1, 15, .inr (.inl (fun _ => 0))))] := hD
  refine W.widen (k := 2) (n := 1615) (by decide +kernel) (by decide +kernel) ?_
  refine va_putF (D := (dC, dI)) (ci := 9) (v := .ref q_2) (ty := (tyX9 1)) (C := RX9) (T := TX9) (N := 8) hx hb hts inlX9 tyX9 tyX9_ok nmX9 hown hK hP hD hS 0 rfl rfl 1 (by decide) (hts _ m_64) (fun _ h9 => h9) rfl hin rfl (by decide +kernel) rfl rfl (Nat.le_of_ble_eq_true rfl) dX9_init_18 (fun H locs hP hD hS => ?_)
  have hP : va_P (dC, dI) classes [(h0, .inr (9, [.ref q_1, .ref q_2, .int 0, .int 0, .int 0, .int 0, .int 0, .long 0])), (q_1, .inl (cy 2, 1600, .inl (fun _ => 0))), (q_2, .inl (cy 1, 15, .inr (.inl (fun _ => 0))))] H := hP
  have hD : va_D A [(h0, .inr (9, [.ref q_1, .ref q_2, .int 0, .int 0, .int 0, .int 0, .int 0, .long 0])), (q_1, .inl (cy 2, 1600, .inl (fun _ => 0))), (q_2, .inl (cy 1, 15, .inr (.inl (fun _ => 0))))] := hD
  refine lv_iconst (v := 0) hx hb dX9_init_21 (by decide +kernel) ?_
  refine lv_istore_n (lv' := [(1, .int 0), (0, .ref h0)]) hx hb dX9_init_22 rfl hl (by decide) rfl (fun ls hl => ?_)
  refine lv_iconst (v := 0) hx hb dX9_init_23 (by decide +kernel) ?_
  refine lv_istore_n (lv' := [(2, .int 0), (1, .int 0), (0, .ref h0)]) hx hb dX9_init_24 rfl hl (by decide) rfl (fun ls hl => ?_)
  refine lpX9_init dC dI cy h0 q_1 q_2 kq vq bf hx hb hml hown hts hE hV (Nat.le_of_ble_eq_true rfl) (Nat.le_of_ble_eq_true rfl) (show 2 ≤ 2 from by decide +kernel) (show 1615 ≤ 1615 from by decide +kernel) (fun x y fl ls H locs hP hD hS hl => ?_) _ 0 0 _ ls _ _ (by decide +kernel) (by decide +kernel) (by decide +kernel) (Nat.lt_succ_self _) hP hD hS hl
  have hP : va_P (dC, dI) classes [(h0, .inr (9, [.ref q_1, .ref q_2, .int 0, .int 0, .int 0, .int 0, .int 0, .long 0])), (q_1, .inl (cy 2, 1600, .inl (fun _ => 0))), (q_2, .inl (cy 1, 15, .inr (.inl (fl))))] H := hP
  have hD : va_D A [(h0, .inr (9, [.ref q_1, .ref q_2, .int 0, .int 0, .int 0, .int 0, .int 0, .long 0])), (q_1, .inl (cy 2, 1600, .inl (fun _ => 0))), (q_2, .inl (cy 1, 15, .inr (.inl (fl))))] := hD
  have hP9 := hP.sub (ws' := [(h0, .inr (9, [.ref q_1, .ref q_2, .int 0, .int 0, .int 0, .int 0, .int 0, .long 0])), (q_1, .inl (cy 2, 1600, .inl (fun _ => 0)))]) [0, 1] rfl
  have hD9 := hD.sub (ws' := [(h0, .inr (9, [.ref q_1, .ref q_2, .int 0, .int 0, .int 0, .int 0, .int 0, .long 0])), (q_1, .inl (cy 2, 1600, .inl (fun _ => 0)))]) [0, 1] (by decide) rfl
  exact W.vret hx hb hr (fun t ht hW => ⟨⟨(), rfl, trivial, q_1, q_2, fl, by rw [ht]; exact hP, hD⟩, hS.F ht⟩) hS.2.2 dX9_init_86
set_option maxRecDepth 100000 in
set_option maxHeartbeats 4000000 in
theorem kc_X9 {l : Launch} {E : (Nat → Prop) → State → Prop} {dC : Nat → ClassId} {dI : Nat → Nat → Nat} {cy : Nat → ClassId} {kq vq : Nat} {bf : Nat → Int32} (hE : ∀ A U, E A U → EV dC dI cy U ∧ SV kq vq bf A U) : KC l yX9_init cX9_init 4 ({ frames := 4, cells := 2, slots := 1615, locals := 85 }) 2 1615 E TXZ cy (dC, dI) (fun _ => True) 9 [.null, .null, .int 0, .int 0, .int 0, .int 0, .int 0, .long 0] [] 7 := by
  intro h0 sz
  have hD0 : va_D (fun _ => True) [(h0, .inr (9, [.null, .null, .int 0, .int 0, .int 0, .int 0, .int 0, .long 0]))] := by
    refine ⟨fun i j u v hi hj _ => ?_, fun _ _ _ => trivial⟩
    have h1 : i < 1 := (List.getElem?_eq_some_iff.mp hi).1
    have h2 : j < 1 := (List.getElem?_eq_some_iff.mp hj).1
    omega
  refine fx_mono (kX9_init_1 l dC dI cy h0 sz kq vq bf) (fun a s h => ?_) (fun a s oc t _ hq => ?_)
  · obtain ⟨e0, e1, e2, e3⟩ := h
    exact ⟨e0, e1, e2, (hE _ _ e3).1, hD0, (hE _ _ e3).2⟩
  · obtain ⟨⟨u, e1, -, q1, q2, fl, hP, hD⟩, hF⟩ := hq
    refine ⟨⟨e1, _, [7, 26, 27], [h0, q1, q2], hP, rfl, trivial, ⟨rfl, fun k a e hk => ?_⟩, hD, rfl, rfl⟩, hF⟩
    match k, hk with
    | 0, hk =>
      cases hk
      exact ⟨7, _, rfl, rfl, rfl, oks_ok (show oks _ _ _ [.ref q1, .ref q2, .int 0, .int 0, .int 0, .int 0, .int 0, .long 0] from ⟨rt_ok (⟨1, rfl, rfl⟩ : rt [7, 26, 27] [h0, q1, q2] (q1, 26)) (by decide), rt_ok (⟨2, rfl, rfl⟩ : rt [7, 26, 27] [h0, q1, q2] (q2, 27)) (by decide), ⟨_, rfl, by decide +kernel, by decide +kernel⟩, ⟨_, rfl, by decide +kernel, by decide +kernel⟩, ⟨_, rfl, by decide +kernel, by decide +kernel⟩, ⟨_, rfl, by decide +kernel, by decide +kernel⟩, ⟨_, rfl, by decide +kernel, by decide +kernel⟩, ⟨_, rfl, by decide +kernel, by decide +kernel⟩, trivial⟩)⟩
    | 1, hk =>
      cases hk
      exact ⟨26, _, rfl, rfl, rfl, rfl, ⟨_, rfl⟩, fun j t _ ht => helz (by decide +kernel) _ _ j t ht⟩
    | 2, hk =>
      cases hk
      refine ⟨27, _, rfl, rfl, rfl, rfl, ⟨_, rfl⟩, fun j t _ ht => ?_⟩
      rw [show j % ([(.inr (.inl (-9223372036854775808, 9223372036854775807)) : fx_T)]).length = 0 from Nat.mod_one j] at ht
      simp only [List.getElem?_cons_zero, Option.some.injEq] at ht
      subst ht
      exact ok_l _
    | k + 3, hk => simp at hk
set_option maxRecDepth 100000 in
set_option maxHeartbeats 4000000 in
theorem kc_X6 {l : Launch} {E : (Nat → Prop) → State → Prop} {dC : Nat → ClassId} {dI : Nat → Nat → Nat} {cy : Nat → ClassId} {kq vq : Nat} {bf : Nat → Int32} (hE : fx_env E (dC, dI) classes (tys cy) nestW) (hEX : ∀ A U, E A U → EV dC dI cy U ∧ SV kq vq bf A U) : KC l yX6_init cX6_init 1 ({ frames := 5, cells := 26, slots := 2986, locals := 108 }) 26 2986 E TXZ cy (dC, dI) (fun _ => True) 6 [.null, .null, .int 0, .int 0] [] 1 := by
  have hX : ∀ A U, E A U → va_AO RX1 U ∧ va_AO RX8 U := fun A U h => (hEX A U h).1.2.2
  refine k_of (gc := (fun _ => True)) trivial (by decide +kernel) rfl (fun h0 => Nat.le_of_ble_eq_true rfl) ?_
  intro h0 p e s m below meth c hlocks hr hin C hEs hA
  have hK := (hE.1 _ _ hEs).1
  refine gq_pick (lv' := [(0, .ref h0)]) [0] rfl ?_
  refine gq_aln C 0 dX6_init_0 rfl rfl rfl ?_
  refine k_obj C m_48 m_10 m_11 dX6_init_1 (Nat.le_of_ble_eq_true rfl) (Nat.le_of_ble_eq_true rfl) rfl ?_
  refine gq_aln C 0 dX6_init_4 rfl rfl rfl ?_
  refine k_new (C0 := RX9) (T0 := TX9) (N := 8) (ci := 9) C hK hA inlX9 tyX9 tyX9_ok m_49 m_50 m_51 rfl dfX9 (Nat.le_of_ble_eq_true rfl) (Nat.le_of_ble_eq_true rfl) dX6_init_5 rfl (fun b1 => ?_)
  refine gq_st (ws' := kP TXZ cy (dC, dI) _ _ (fun _ => True) [(h0, .inr (6, [.null, .null, .int 0, .int 0])), (b1, .inr (9, [.null, .null, .int 0, .int 0, .int 0, .int 0, .int 0, .long 0]))] ([])) (fun _ _ h => h) ?_
  refine gq_dup C dX6_init_8 rfl rfl ?_
  refine k_init (gc' := fun _ => True) (fr := [(h0, .inr (6, [.null, .null, .int 0, .int 0]))]) (As := []) (rest := [.ref b1, .ref h0]) C hE hEs rfl hA (kc_X9 hEX) (fun _ _ _ _ => trivial) (cwI 0 C.2.2.2.1 (gdI m_59) rfl rfl rfl (C.2.2.2.1 _ m_51) (C.2.2.2.1 _ m_57) (C.2.2.2.1 _ m_58) rfl (by decide +kernel) ⟨Nat.le_of_ble_eq_true rfl, Nat.le_of_ble_eq_true rfl⟩) rfl rfl (Nat.le_of_ble_eq_true rfl) dX6_init_9 ⟨(Nat.le_of_ble_eq_true rfl), (Nat.le_of_ble_eq_true rfl)⟩ rfl ?_
  refine k_putF (C0 := RX6) (T0 := TX6) (N := 4) (ty := (tyX6 0)) (fr' := [(h0, .inr (6, [.ref b1, .null, .int 0, .int 0]))]) C hK inlX6 tyX6 tyX6_ok nmX6 0 rfl rfl 0 (by decide) m_52 (fun _ h9 => h9) rfl hin rfl (by decide +kernel) rfl rfl (Nat.le_of_ble_eq_true rfl) dX6_init_12 rfl rfl ?_
  refine gq_aln C 0 dX6_init_15 rfl rfl rfl ?_
  refine k_new (C0 := RX10) (T0 := TX10) (N := 12) (ci := 10) C hK hA inlX10 tyX10 tyX10_ok m_53 m_42 m_43 rfl dfX10 (Nat.le_of_ble_eq_true rfl) (Nat.le_of_ble_eq_true rfl) dX6_init_16 rfl (fun b2 => ?_)
  refine gq_st (ws' := kP TXZ cy (dC, dI) _ _ (fun _ => True) [(h0, .inr (6, [.ref b1, .null, .int 0, .int 0])), (b2, .inr (10, [.null, .null, .null, .null, .null, .null, .null, .int 0, .int 0, .int 0, .int 0, .int 0]))] ([] ++ [(b1, 7)])) (fun _ _ h => h) ?_
  refine gq_dup C dX6_init_19 rfl rfl ?_
  refine k_init (gc' := fun _ => True) (fr := [(h0, .inr (6, [.ref b1, .null, .int 0, .int 0]))]) (As := []) (rest := [.ref b2, .ref h0]) C hE hEs rfl hA (kc_X10 hE hX) (fun _ _ _ _ => trivial) (cwI 0 C.2.2.2.1 (gdI m_116) rfl rfl rfl (C.2.2.2.1 _ m_43) (C.2.2.2.1 _ m_114) (C.2.2.2.1 _ m_115) rfl (by decide +kernel) ⟨Nat.le_of_ble_eq_true rfl, Nat.le_of_ble_eq_true rfl⟩) rfl rfl (Nat.le_of_ble_eq_true rfl) dX6_init_20 ⟨(Nat.le_of_ble_eq_true rfl), (Nat.le_of_ble_eq_true rfl)⟩ rfl ?_
  refine k_put (C0 := RX6) (T0 := TX6) (N := 4) (ty := (tyX6 1)) (fr' := [(h0, .inr (6, [.ref b1, .ref b2, .int 0, .int 0]))]) C hK inlX6 tyX6 tyX6_ok nmX6 0 rfl rfl 1 (by decide) m_54 (fun _ h9 => h9) rfl (by decide +kernel) rfl rfl (Nat.le_of_ble_eq_true rfl) dX6_init_23 rfl rfl ?_
  refine gq_aln C 0 dX6_init_26 rfl rfl rfl ?_
  refine gq_ic C dX6_init_27 rfl ?_
  refine k_put (C0 := RX6) (T0 := TX6) (N := 4) (ty := (tyX6 2)) (fr' := [(h0, .inr (6, [.ref b1, .ref b2, zv 0, .int 0]))]) C hK inlX6 tyX6 tyX6_ok nmX6 0 rfl rfl 2 (by decide) m_55 (fun _ h9 => h9) rfl (by decide +kernel) rfl rfl (Nat.le_of_ble_eq_true rfl) dX6_init_28 rfl rfl ?_
  refine gq_aln C 0 dX6_init_31 rfl rfl rfl ?_
  refine gq_ic C dX6_init_32 rfl ?_
  refine k_put (C0 := RX6) (T0 := TX6) (N := 4) (ty := (tyX6 3)) (fr' := [(h0, .inr (6, [.ref b1, .ref b2, zv 0, zv (-1)]))]) C hK inlX6 tyX6 tyX6_ok nmX6 0 rfl rfl 3 (by decide) m_56 (fun _ h9 => h9) rfl (by decide +kernel) rfl rfl (Nat.le_of_ble_eq_true rfl) dX6_init_33 rfl rfl ?_
  refine gq_wd (cl' := 26) (sl' := 2986) (Nat.le_of_ble_eq_true rfl) (Nat.le_of_ble_eq_true rfl) ?_
  exact k_ret (gf := [1]) C hlocks hr dX6_init_36 rfl rfl rfl rfl rfl rfl (fun _ _ => trivial) (fun gs ad hq => ⟨⟨_, rfl, rfl, oks_ok (show oks _ _ _ [.ref b1, .ref b2, zv 0, zv (-1)] from ⟨(rt_ok (hq (b1, 7) (List.mem_append_left _ (List.mem_append_right _ (List.mem_singleton.mpr rfl)))) (by decide)), (rt_ok (hq (b2, 8) (List.mem_append_right _ (List.mem_singleton.mpr rfl))) (by decide)), ⟨_, rfl, by decide +kernel, by decide +kernel⟩, ⟨_, rfl, by decide +kernel, by decide +kernel⟩, trivial⟩)⟩, trivial⟩)
set_option maxRecDepth 100000 in
set_option maxHeartbeats 4000000 in
theorem kc_X11 {l : Launch} {E : (Nat → Prop) → State → Prop} {dC : Nat → ClassId} {dI : Nat → Nat → Nat} {cy : Nat → ClassId} {kq vq : Nat} {bf : Nat → Int32} (hE : fx_env E (dC, dI) classes (tys cy) nestW) (hEX : ∀ A U, E A U → EV dC dI cy U ∧ SV kq vq bf A U) : KC l yX11_init cX11_init 1 ({ frames := 6, cells := 223, slots := 11178, locals := 128 }) 223 11178 E TXZ cy (dC, dI) (fun _ => True) 11 [.null, .null, .null, .null, .null, .null, .null, .null, .null] [] 0 := by
  have hX : ∀ A U, E A U → va_AO RX1 U ∧ va_AO RX8 U := fun A U h => (hEX A U h).1.2.2
  refine k_of (gc := (fun _ => True)) trivial (by decide +kernel) rfl (fun h0 => Nat.le_of_ble_eq_true rfl) ?_
  intro h0 p e s m below meth c hlocks hr hin C hEs hA
  have hK := (hE.1 _ _ hEs).1
  refine gq_pick (lv' := [(0, .ref h0)]) [0] rfl ?_
  refine gq_aln C 0 dX11_init_0 rfl rfl rfl ?_
  refine k_obj C m_9 m_10 m_11 dX11_init_1 (Nat.le_of_ble_eq_true rfl) (Nat.le_of_ble_eq_true rfl) rfl ?_
  refine gq_aln C 0 dX11_init_4 rfl rfl rfl ?_
  refine k_new (C0 := RX6) (T0 := TX6) (N := 4) (ci := 6) C hK hA inlX6 tyX6 tyX6_ok m_12 m_13 m_14 rfl dfX6 (Nat.le_of_ble_eq_true rfl) (Nat.le_of_ble_eq_true rfl) dX11_init_5 rfl (fun b1 => ?_)
  refine gq_st (ws' := kP TXZ cy (dC, dI) _ _ (fun _ => True) [(h0, .inr (11, [.null, .null, .null, .null, .null, .null, .null, .null, .null])), (b1, .inr (6, [.null, .null, .int 0, .int 0]))] ([])) (fun _ _ h => h) ?_
  refine gq_dup C dX11_init_8 rfl rfl ?_
  refine k_init (gc' := fun _ => True) (fr := [(h0, .inr (11, [.null, .null, .null, .null, .null, .null, .null, .null, .null]))]) (As := []) (rest := [.ref b1, .ref h0]) C hE hEs rfl hA (kc_X6 hE hEX) (fun _ _ _ _ => trivial) (cwI 0 C.2.2.2.1 (gdI m_47) rfl rfl rfl (C.2.2.2.1 _ m_14) (C.2.2.2.1 _ m_45) (C.2.2.2.1 _ m_46) rfl (by decide +kernel) ⟨Nat.le_of_ble_eq_true rfl, Nat.le_of_ble_eq_true rfl⟩) rfl rfl (Nat.le_of_ble_eq_true rfl) dX11_init_9 ⟨(Nat.le_of_ble_eq_true rfl), (Nat.le_of_ble_eq_true rfl)⟩ rfl ?_
  refine k_putF (C0 := RX11) (T0 := TX11) (N := 9) (ty := (tyX11 0)) (fr' := [(h0, .inr (11, [.ref b1, .null, .null, .null, .null, .null, .null, .null, .null]))]) C hK inlX11 tyX11 tyX11_ok nmX11 0 rfl rfl 0 (by decide) m_15 (fun _ h9 => h9) rfl hin rfl (by decide +kernel) rfl rfl (Nat.le_of_ble_eq_true rfl) dX11_init_12 rfl rfl ?_
  refine gq_aln C 0 dX11_init_15 rfl rfl rfl ?_
  refine k_new (C0 := RX5) (T0 := TX5) (N := 7) (ci := 5) C hK hA inlX5 tyX5 tyX5_ok m_16 m_17 m_18 rfl dfX5 (Nat.le_of_ble_eq_true rfl) (Nat.le_of_ble_eq_true rfl) dX11_init_16 rfl (fun b2 => ?_)
  refine gq_st (ws' := kP TXZ cy (dC, dI) _ _ (fun _ => True) [(h0, .inr (11, [.ref b1, .null, .null, .null, .null, .null, .null, .null, .null])), (b2, .inr (5, [.null, .null, .null, .null, .null, .int 0, .int 0]))] ([] ++ [(b1, 1)])) (fun _ _ h => h) ?_
  refine gq_dup C dX11_init_19 rfl rfl ?_
  refine k_init (gc' := fun _ => True) (fr := [(h0, .inr (11, [.ref b1, .null, .null, .null, .null, .null, .null, .null, .null]))]) (As := []) (rest := [.ref b2, .ref h0]) C hE hEs rfl hA (kc_X5 hE hX) (fun _ _ _ _ => trivial) (cwI 0 C.2.2.2.1 (gdI m_151) rfl rfl rfl (C.2.2.2.1 _ m_18) (C.2.2.2.1 _ m_149) (C.2.2.2.1 _ m_150) rfl (by decide +kernel) ⟨Nat.le_of_ble_eq_true rfl, Nat.le_of_ble_eq_true rfl⟩) rfl rfl (Nat.le_of_ble_eq_true rfl) dX11_init_20 ⟨(Nat.le_of_ble_eq_true rfl), (Nat.le_of_ble_eq_true rfl)⟩ rfl ?_
  refine k_putF (C0 := RX11) (T0 := TX11) (N := 9) (ty := (tyX11 1)) (fr' := [(h0, .inr (11, [.ref b1, .ref b2, .null, .null, .null, .null, .null, .null, .null]))]) C hK inlX11 tyX11 tyX11_ok nmX11 0 rfl rfl 1 (by decide) m_19 (fun _ h9 => h9) rfl hin rfl (by decide +kernel) rfl rfl (Nat.le_of_ble_eq_true rfl) dX11_init_23 rfl rfl ?_
  refine gq_aln C 0 dX11_init_26 rfl rfl rfl ?_
  refine k_new (C0 := RX4) (T0 := TX4) (N := 7) (ci := 4) C hK hA inlX4 tyX4 tyX4_ok m_20 m_21 m_22 rfl dfX4 (Nat.le_of_ble_eq_true rfl) (Nat.le_of_ble_eq_true rfl) dX11_init_27 rfl (fun b3 => ?_)
  refine gq_st (ws' := kP TXZ cy (dC, dI) _ _ (fun _ => True) [(h0, .inr (11, [.ref b1, .ref b2, .null, .null, .null, .null, .null, .null, .null])), (b3, .inr (4, [.null, .null, .null, .null, .null, .null, .null]))] ([] ++ [(b1, 1)] ++ [(b2, 2)])) (fun _ _ h => h) ?_
  refine gq_dup C dX11_init_30 rfl rfl ?_
  refine k_init (gc' := fun _ => True) (fr := [(h0, .inr (11, [.ref b1, .ref b2, .null, .null, .null, .null, .null, .null, .null]))]) (As := []) (rest := [.ref b3, .ref h0]) C hE hEs rfl hA (kc_X4 hE hX) (fun _ _ _ _ => trivial) (cwI 0 C.2.2.2.1 (gdI m_172) rfl rfl rfl (C.2.2.2.1 _ m_22) (C.2.2.2.1 _ m_170) (C.2.2.2.1 _ m_171) rfl (by decide +kernel) ⟨Nat.le_of_ble_eq_true rfl, Nat.le_of_ble_eq_true rfl⟩) rfl rfl (Nat.le_of_ble_eq_true rfl) dX11_init_31 ⟨(Nat.le_of_ble_eq_true rfl), (Nat.le_of_ble_eq_true rfl)⟩ rfl ?_
  refine k_putF (C0 := RX11) (T0 := TX11) (N := 9) (ty := (tyX11 2)) (fr' := [(h0, .inr (11, [.ref b1, .ref b2, .ref b3, .null, .null, .null, .null, .null, .null]))]) C hK inlX11 tyX11 tyX11_ok nmX11 0 rfl rfl 2 (by decide) m_23 (fun _ h9 => h9) rfl hin rfl (by decide +kernel) rfl rfl (Nat.le_of_ble_eq_true rfl) dX11_init_34 rfl rfl ?_
  refine gq_aln C 0 dX11_init_37 rfl rfl rfl ?_
  refine k_new (C0 := RX2) (T0 := TX2) (N := 1) (ci := 2) C hK hA inlX2 tyX2 tyX2_ok m_24 m_25 m_26 rfl dfX2 (Nat.le_of_ble_eq_true rfl) (Nat.le_of_ble_eq_true rfl) dX11_init_38 rfl (fun b4 => ?_)
  refine gq_st (ws' := kP TXZ cy (dC, dI) _ _ (fun _ => True) [(h0, .inr (11, [.ref b1, .ref b2, .ref b3, .null, .null, .null, .null, .null, .null])), (b4, .inr (2, [.null]))] ([] ++ [(b1, 1)] ++ [(b2, 2)] ++ [(b3, 3)])) (fun _ _ h => h) ?_
  refine gq_dup C dX11_init_41 rfl rfl ?_
  refine k_init (gc' := fun _ => True) (fr := [(h0, .inr (11, [.ref b1, .ref b2, .ref b3, .null, .null, .null, .null, .null, .null]))]) (As := []) (rest := [.ref b4, .ref h0]) C hE hEs rfl hA (kc_X2 hE hX) (fun _ _ _ _ => trivial) (cwI 0 C.2.2.2.1 (gdI m_185) rfl rfl rfl (C.2.2.2.1 _ m_26) (C.2.2.2.1 _ m_183) (C.2.2.2.1 _ m_184) rfl (by decide +kernel) ⟨Nat.le_of_ble_eq_true rfl, Nat.le_of_ble_eq_true rfl⟩) rfl rfl (Nat.le_of_ble_eq_true rfl) dX11_init_42 ⟨(Nat.le_of_ble_eq_true rfl), (Nat.le_of_ble_eq_true rfl)⟩ rfl ?_
  refine k_putF (C0 := RX11) (T0 := TX11) (N := 9) (ty := (tyX11 3)) (fr' := [(h0, .inr (11, [.ref b1, .ref b2, .ref b3, .ref b4, .null, .null, .null, .null, .null]))]) C hK inlX11 tyX11 tyX11_ok nmX11 0 rfl rfl 3 (by decide) m_27 (fun _ h9 => h9) rfl hin rfl (by decide +kernel) rfl rfl (Nat.le_of_ble_eq_true rfl) dX11_init_45 rfl rfl ?_
  refine gq_aln C 0 dX11_init_48 rfl rfl rfl ?_
  refine k_new (C0 := RX3) (T0 := TX3) (N := 3) (ci := 3) C hK hA inlX3 tyX3 tyX3_ok m_28 m_29 m_30 rfl dfX3 (Nat.le_of_ble_eq_true rfl) (Nat.le_of_ble_eq_true rfl) dX11_init_49 rfl (fun b5 => ?_)
  refine gq_st (ws' := kP TXZ cy (dC, dI) _ _ (fun _ => True) [(h0, .inr (11, [.ref b1, .ref b2, .ref b3, .ref b4, .null, .null, .null, .null, .null])), (b5, .inr (3, [.null, .null, .null]))] ([] ++ [(b1, 1)] ++ [(b2, 2)] ++ [(b3, 3)] ++ [(b4, 4)])) (fun _ _ h => h) ?_
  refine gq_dup C dX11_init_52 rfl rfl ?_
  refine k_init (gc' := fun _ => True) (fr := [(h0, .inr (11, [.ref b1, .ref b2, .ref b3, .ref b4, .null, .null, .null, .null, .null]))]) (As := []) (rest := [.ref b5, .ref h0]) C hE hEs rfl hA (kc_X3 hE hX) (fun _ _ _ _ => trivial) (cwI 0 C.2.2.2.1 (gdI m_190) rfl rfl rfl (C.2.2.2.1 _ m_30) (C.2.2.2.1 _ m_188) (C.2.2.2.1 _ m_189) rfl (by decide +kernel) ⟨Nat.le_of_ble_eq_true rfl, Nat.le_of_ble_eq_true rfl⟩) rfl rfl (Nat.le_of_ble_eq_true rfl) dX11_init_53 ⟨(Nat.le_of_ble_eq_true rfl), (Nat.le_of_ble_eq_true rfl)⟩ rfl ?_
  refine k_putF (C0 := RX11) (T0 := TX11) (N := 9) (ty := (tyX11 4)) (fr' := [(h0, .inr (11, [.ref b1, .ref b2, .ref b3, .ref b4, .ref b5, .null, .null, .null, .null]))]) C hK inlX11 tyX11 tyX11_ok nmX11 0 rfl rfl 4 (by decide) m_31 (fun _ h9 => h9) rfl hin rfl (by decide +kernel) rfl rfl (Nat.le_of_ble_eq_true rfl) dX11_init_56 rfl rfl ?_
  refine gq_aln C 0 dX11_init_59 rfl rfl rfl ?_
  refine k_new (C0 := RX7) (T0 := TX7) (N := 13) (ci := 7) C hK hA inlX7 tyX7 tyX7_ok m_32 m_33 m_34 rfl dfX7 (Nat.le_of_ble_eq_true rfl) (Nat.le_of_ble_eq_true rfl) dX11_init_60 rfl (fun b6 => ?_)
  refine gq_st (ws' := kP TXZ cy (dC, dI) _ _ (fun _ => True) [(h0, .inr (11, [.ref b1, .ref b2, .ref b3, .ref b4, .ref b5, .null, .null, .null, .null])), (b6, .inr (7, [.null, .null, .null, .null, .null, .null, .null, .null, .null, .int 0, .int 0, .int 0, .int 0]))] ([] ++ [(b1, 1)] ++ [(b2, 2)] ++ [(b3, 3)] ++ [(b4, 4)] ++ [(b5, 5)])) (fun _ _ h => h) ?_
  refine gq_dup C dX11_init_63 rfl rfl ?_
  refine k_init (gc' := fun _ => True) (fr := [(h0, .inr (11, [.ref b1, .ref b2, .ref b3, .ref b4, .ref b5, .null, .null, .null, .null]))]) (As := []) (rest := [.ref b6, .ref h0]) C hE hEs rfl hA (kc_X7 hE hX) (fun _ _ _ _ => trivial) (cwI 0 C.2.2.2.1 (gdI m_199) rfl rfl rfl (C.2.2.2.1 _ m_34) (C.2.2.2.1 _ m_197) (C.2.2.2.1 _ m_198) rfl (by decide +kernel) ⟨Nat.le_of_ble_eq_true rfl, Nat.le_of_ble_eq_true rfl⟩) rfl rfl (Nat.le_of_ble_eq_true rfl) dX11_init_64 ⟨(Nat.le_of_ble_eq_true rfl), (Nat.le_of_ble_eq_true rfl)⟩ rfl ?_
  refine k_putF (C0 := RX11) (T0 := TX11) (N := 9) (ty := (tyX11 5)) (fr' := [(h0, .inr (11, [.ref b1, .ref b2, .ref b3, .ref b4, .ref b5, .ref b6, .null, .null, .null]))]) C hK inlX11 tyX11 tyX11_ok nmX11 0 rfl rfl 5 (by decide) m_35 (fun _ h9 => h9) rfl hin rfl (by decide +kernel) rfl rfl (Nat.le_of_ble_eq_true rfl) dX11_init_67 rfl rfl ?_
  refine gq_aln C 0 dX11_init_70 rfl rfl rfl ?_
  refine k_new (C0 := RX1) (T0 := TX1) (N := 2) (ci := 1) C hK hA inlX1 tyX1 tyX1_ok m_36 m_37 m_38 rfl dfX1 (Nat.le_of_ble_eq_true rfl) (Nat.le_of_ble_eq_true rfl) dX11_init_71 rfl (fun b7 => ?_)
  refine gq_st (ws' := kP TXZ cy (dC, dI) _ _ (fun _ => True) [(h0, .inr (11, [.ref b1, .ref b2, .ref b3, .ref b4, .ref b5, .ref b6, .null, .null, .null])), (b7, .inr (1, [.null, .int 0]))] ([] ++ [(b1, 1)] ++ [(b2, 2)] ++ [(b3, 3)] ++ [(b4, 4)] ++ [(b5, 5)] ++ [(b6, 6)])) (fun _ _ h => h) ?_
  refine gq_dup C dX11_init_74 rfl rfl ?_
  refine gq_bi C dX11_init_75 (by decide +kernel) rfl ?_
  refine k_init (gc' := fun _ => True) (fr := [(h0, .inr (11, [.ref b1, .ref b2, .ref b3, .ref b4, .ref b5, .ref b6, .null, .null, .null]))]) (As := [zv 24]) (rest := [.ref b7, .ref h0]) C hE hEs rfl hA (kc_X1_24 hE hX) (fun _ _ _ _ => trivial) (cwI 1 C.2.2.2.1 (gdI m_133) rfl rfl rfl (C.2.2.2.1 _ m_38) (C.2.2.2.1 _ m_212) (C.2.2.2.1 _ m_132) rfl (by decide +kernel) ⟨Nat.le_of_ble_eq_true rfl, Nat.le_of_ble_eq_true rfl⟩) rfl rfl (Nat.le_of_ble_eq_true rfl) dX11_init_77 ⟨(Nat.le_of_ble_eq_true rfl), (Nat.le_of_ble_eq_true rfl)⟩ rfl ?_
  refine k_putF (C0 := RX11) (T0 := TX11) (N := 9) (ty := (tyX11 6)) (fr' := [(h0, .inr (11, [.ref b1, .ref b2, .ref b3, .ref b4, .ref b5, .ref b6, .ref b7, .null, .null]))]) C hK inlX11 tyX11 tyX11_ok nmX11 0 rfl rfl 6 (by decide) m_39 (fun _ h9 => h9) rfl hin rfl (by decide +kernel) rfl rfl (Nat.le_of_ble_eq_true rfl) dX11_init_80 rfl rfl ?_
  refine gq_aln C 0 dX11_init_83 rfl rfl rfl ?_
  refine k_new (C0 := RX1) (T0 := TX1) (N := 2) (ci := 1) C hK hA inlX1 tyX1 tyX1_ok m_36 m_37 m_38 rfl dfX1 (Nat.le_of_ble_eq_true rfl) (Nat.le_of_ble_eq_true rfl) dX11_init_84 rfl (fun b8 => ?_)
  refine gq_st (ws' := kP TXZ cy (dC, dI) _ _ (fun _ => True) [(h0, .inr (11, [.ref b1, .ref b2, .ref b3, .ref b4, .ref b5, .ref b6, .ref b7, .null, .null])), (b8, .inr (1, [.null, .int 0]))] ([] ++ [(b1, 1)] ++ [(b2, 2)] ++ [(b3, 3)] ++ [(b4, 4)] ++ [(b5, 5)] ++ [(b6, 6)] ++ [(b7, 12)])) (fun _ _ h => h) ?_
  refine gq_dup C dX11_init_87 rfl rfl ?_
  refine gq_ic C dX11_init_88 rfl ?_
  refine k_init (gc' := fun _ => True) (fr := [(h0, .inr (11, [.ref b1, .ref b2, .ref b3, .ref b4, .ref b5, .ref b6, .ref b7, .null, .null]))]) (As := [zv 0]) (rest := [.ref b8, .ref h0]) C hE hEs rfl hA (kc_X1_0 hE hX) (fun _ _ _ _ => trivial) (cwI 1 C.2.2.2.1 (gdI m_133) rfl rfl rfl (C.2.2.2.1 _ m_38) (C.2.2.2.1 _ m_212) (C.2.2.2.1 _ m_132) rfl (by decide +kernel) ⟨Nat.le_of_ble_eq_true rfl, Nat.le_of_ble_eq_true rfl⟩) rfl rfl (Nat.le_of_ble_eq_true rfl) dX11_init_89 ⟨(Nat.le_of_ble_eq_true rfl), (Nat.le_of_ble_eq_true rfl)⟩ rfl ?_
  refine k_putF (C0 := RX11) (T0 := TX11) (N := 9) (ty := (tyX11 7)) (fr' := [(h0, .inr (11, [.ref b1, .ref b2, .ref b3, .ref b4, .ref b5, .ref b6, .ref b7, .ref b8, .null]))]) C hK inlX11 tyX11 tyX11_ok nmX11 0 rfl rfl 7 (by decide) m_40 (fun _ h9 => h9) rfl hin rfl (by decide +kernel) rfl rfl (Nat.le_of_ble_eq_true rfl) dX11_init_92 rfl rfl ?_
  refine gq_aln C 0 dX11_init_95 rfl rfl rfl ?_
  refine k_new (C0 := RX10) (T0 := TX10) (N := 12) (ci := 10) C hK hA inlX10 tyX10 tyX10_ok m_41 m_42 m_43 rfl dfX10 (Nat.le_of_ble_eq_true rfl) (Nat.le_of_ble_eq_true rfl) dX11_init_96 rfl (fun b9 => ?_)
  refine gq_st (ws' := kP TXZ cy (dC, dI) _ _ (fun _ => True) [(h0, .inr (11, [.ref b1, .ref b2, .ref b3, .ref b4, .ref b5, .ref b6, .ref b7, .ref b8, .null])), (b9, .inr (10, [.null, .null, .null, .null, .null, .null, .null, .int 0, .int 0, .int 0, .int 0, .int 0]))] ([] ++ [(b1, 1)] ++ [(b2, 2)] ++ [(b3, 3)] ++ [(b4, 4)] ++ [(b5, 5)] ++ [(b6, 6)] ++ [(b7, 12)] ++ [(b8, 65)])) (fun _ _ h => h) ?_
  refine gq_dup C dX11_init_99 rfl rfl ?_
  refine k_init (gc' := fun _ => True) (fr := [(h0, .inr (11, [.ref b1, .ref b2, .ref b3, .ref b4, .ref b5, .ref b6, .ref b7, .ref b8, .null]))]) (As := []) (rest := [.ref b9, .ref h0]) C hE hEs rfl hA (kc_X10 hE hX) (fun _ _ _ _ => trivial) (cwI 0 C.2.2.2.1 (gdI m_116) rfl rfl rfl (C.2.2.2.1 _ m_43) (C.2.2.2.1 _ m_213) (C.2.2.2.1 _ m_115) rfl (by decide +kernel) ⟨Nat.le_of_ble_eq_true rfl, Nat.le_of_ble_eq_true rfl⟩) rfl rfl (Nat.le_of_ble_eq_true rfl) dX11_init_100 ⟨(Nat.le_of_ble_eq_true rfl), (Nat.le_of_ble_eq_true rfl)⟩ rfl ?_
  refine k_put (C0 := RX11) (T0 := TX11) (N := 9) (ty := (tyX11 8)) (fr' := [(h0, .inr (11, [.ref b1, .ref b2, .ref b3, .ref b4, .ref b5, .ref b6, .ref b7, .ref b8, .ref b9]))]) C hK inlX11 tyX11 tyX11_ok nmX11 0 rfl rfl 8 (by decide) m_44 (fun _ h9 => h9) rfl (by decide +kernel) rfl rfl (Nat.le_of_ble_eq_true rfl) dX11_init_103 rfl rfl ?_
  refine gq_wd (cl' := 223) (sl' := 11178) (Nat.le_of_ble_eq_true rfl) (Nat.le_of_ble_eq_true rfl) ?_
  exact k_ret (gf := [0]) C hlocks hr dX11_init_106 rfl rfl rfl rfl rfl rfl (fun _ _ => trivial) (fun gs ad hq => ⟨⟨_, rfl, rfl, oks_ok (show oks _ _ _ [.ref b1, .ref b2, .ref b3, .ref b4, .ref b5, .ref b6, .ref b7, .ref b8, .ref b9] from ⟨(rt_ok (hq (b1, 1) (List.mem_append_left _ (List.mem_append_left _ (List.mem_append_left _ (List.mem_append_left _ (List.mem_append_left _ (List.mem_append_left _ (List.mem_append_left _ (List.mem_append_left _ (List.mem_append_right _ (List.mem_singleton.mpr rfl))))))))))) (by decide)), (rt_ok (hq (b2, 2) (List.mem_append_left _ (List.mem_append_left _ (List.mem_append_left _ (List.mem_append_left _ (List.mem_append_left _ (List.mem_append_left _ (List.mem_append_left _ (List.mem_append_right _ (List.mem_singleton.mpr rfl)))))))))) (by decide)), (rt_ok (hq (b3, 3) (List.mem_append_left _ (List.mem_append_left _ (List.mem_append_left _ (List.mem_append_left _ (List.mem_append_left _ (List.mem_append_left _ (List.mem_append_right _ (List.mem_singleton.mpr rfl))))))))) (by decide)), (rt_ok (hq (b4, 4) (List.mem_append_left _ (List.mem_append_left _ (List.mem_append_left _ (List.mem_append_left _ (List.mem_append_left _ (List.mem_append_right _ (List.mem_singleton.mpr rfl)))))))) (by decide)), (rt_ok (hq (b5, 5) (List.mem_append_left _ (List.mem_append_left _ (List.mem_append_left _ (List.mem_append_left _ (List.mem_append_right _ (List.mem_singleton.mpr rfl))))))) (by decide)), (rt_ok (hq (b6, 6) (List.mem_append_left _ (List.mem_append_left _ (List.mem_append_left _ (List.mem_append_right _ (List.mem_singleton.mpr rfl)))))) (by decide)), (rt_ok (hq (b7, 12) (List.mem_append_left _ (List.mem_append_left _ (List.mem_append_right _ (List.mem_singleton.mpr rfl))))) (by decide)), (rt_ok (hq (b8, 65) (List.mem_append_left _ (List.mem_append_right _ (List.mem_singleton.mpr rfl)))) (by decide)), (rt_ok (hq (b9, 8) (List.mem_append_right _ (List.mem_singleton.mpr rfl))) (by decide)), trivial⟩)⟩, trivial⟩)
