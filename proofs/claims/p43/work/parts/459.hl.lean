theorem dX12_isWord_0 : decode cX12_isWord 0 = .ok (.aload_n 0, 1) := by decide +kernel
theorem dX12_isWord_1 : decode cX12_isWord 1 = .ok (.getfield 213, 3) := by decide +kernel
theorem dX12_isWord_4 : decode cX12_isWord 4 = .ok (.iconst 3, 1) := by decide +kernel
theorem dX12_isWord_5 : decode cX12_isWord 5 = .ok (.if_icmp .ne 16, 3) := by decide +kernel
theorem dX12_isWord_21 : decode cX12_isWord 21 = .ok (.iconst 0, 1) := by decide +kernel
theorem dX12_isWord_22 : decode cX12_isWord 22 = .ok (.ireturn, 1) := by decide +kernel
theorem dX12_isWord_8 : decode cX12_isWord 8 = .ok (.aload_n 0, 1) := by decide +kernel
theorem dX12_isWord_9 : decode cX12_isWord 9 = .ok (.getfield 220, 3) := by decide +kernel
theorem dX12_isWord_12 : decode cX12_isWord 12 = .ok (.lload_n 1, 1) := by decide +kernel
theorem dX12_isWord_13 : decode cX12_isWord 13 = .ok (.lcmp, 1) := by decide +kernel
theorem dX12_isWord_14 : decode cX12_isWord 14 = .ok (.ifCond .ne 7, 3) := by decide +kernel
theorem dX12_isWord_17 : decode cX12_isWord 17 = .ok (.iconst 1, 1) := by decide +kernel
theorem dX12_isWord_18 : decode cX12_isWord 18 = .ok (.goto 4, 3) := by decide +kernel
theorem dX12_isFull_0 : decode cX12_isFull 0 = .ok (.aload_n 0, 1) := by decide +kernel
theorem dX12_isFull_1 : decode cX12_isFull 1 = .ok (.ldc2_w 173, 3) := by decide +kernel
theorem dX12_isFull_4 : decode cX12_isFull 4 = .ok (.invokevirtual 251, 3) := by decide +kernel
theorem dX12_isFull_7 : decode cX12_isFull 7 = .ok (.ifCond .eq 23, 3) := by decide +kernel
theorem dX12_isFull_30 : decode cX12_isFull 30 = .ok (.aload_n 0, 1) := by decide +kernel
theorem dX12_isFull_31 : decode cX12_isFull 31 = .ok (.ldc2_w 177, 3) := by decide +kernel
theorem dX12_isFull_34 : decode cX12_isFull 34 = .ok (.invokevirtual 251, 3) := by decide +kernel
theorem dX12_isFull_37 : decode cX12_isFull 37 = .ok (.ifCond .eq 23, 3) := by decide +kernel
theorem dX12_isFull_60 : decode cX12_isFull 60 = .ok (.aload_n 0, 1) := by decide +kernel
theorem dX12_isFull_61 : decode cX12_isFull 61 = .ok (.ldc2_w 179, 3) := by decide +kernel
theorem dX12_isFull_64 : decode cX12_isFull 64 = .ok (.invokevirtual 251, 3) := by decide +kernel
theorem dX12_isFull_67 : decode cX12_isFull 67 = .ok (.ifCond .eq 13, 3) := by decide +kernel
theorem dX12_isFull_80 : decode cX12_isFull 80 = .ok (.aload_n 0, 1) := by decide +kernel
theorem dX12_isFull_81 : decode cX12_isFull 81 = .ok (.ldc2_w 181, 3) := by decide +kernel
theorem dX12_isFull_84 : decode cX12_isFull 84 = .ok (.invokevirtual 251, 3) := by decide +kernel
theorem dX12_isFull_87 : decode cX12_isFull 87 = .ok (.ifCond .eq 22, 3) := by decide +kernel
theorem dX12_isFull_109 : decode cX12_isFull 109 = .ok (.aload_n 0, 1) := by decide +kernel
theorem dX12_isFull_110 : decode cX12_isFull 110 = .ok (.ldc2_w 183, 3) := by decide +kernel
theorem dX12_isFull_113 : decode cX12_isFull 113 = .ok (.invokevirtual 251, 3) := by decide +kernel
theorem dX12_isFull_116 : decode cX12_isFull 116 = .ok (.ifCond .eq 13, 3) := by decide +kernel
theorem dX12_isFull_129 : decode cX12_isFull 129 = .ok (.aload_n 0, 1) := by decide +kernel
theorem dX12_isFull_130 : decode cX12_isFull 130 = .ok (.ldc2_w 185, 3) := by decide +kernel
theorem dX12_isFull_133 : decode cX12_isFull 133 = .ok (.invokevirtual 251, 3) := by decide +kernel
theorem dX12_isFull_136 : decode cX12_isFull 136 = .ok (.ifCond .eq 15, 3) := by decide +kernel
theorem dX12_isFull_151 : decode cX12_isFull 151 = .ok (.iconst 1, 1) := by decide +kernel
theorem dX12_isFull_152 : decode cX12_isFull 152 = .ok (.goto 4, 3) := by decide +kernel
theorem dX12_isFull_156 : decode cX12_isFull 156 = .ok (.ireturn, 1) := by decide +kernel
theorem dX12_isFull_139 : decode cX12_isFull 139 = .ok (.aload_n 0, 1) := by decide +kernel
theorem dX12_isFull_140 : decode cX12_isFull 140 = .ok (.getfield 70, 3) := by decide +kernel
theorem dX12_isFull_143 : decode cX12_isFull 143 = .ok (.aload_n 0, 1) := by decide +kernel
theorem dX12_isFull_144 : decode cX12_isFull 144 = .ok (.getfield 265, 3) := by decide +kernel
theorem dX12_isFull_147 : decode cX12_isFull 147 = .ok (.baload, 1) := by decide +kernel
theorem dX12_isFull_148 : decode cX12_isFull 148 = .ok (.ifCond .eq 7, 3) := by decide +kernel
theorem dX12_isFull_155 : decode cX12_isFull 155 = .ok (.iconst 0, 1) := by decide +kernel
theorem dX12_isFull_119 : decode cX12_isFull 119 = .ok (.aload_n 0, 1) := by decide +kernel
theorem dX12_isFull_120 : decode cX12_isFull 120 = .ok (.getfield 67, 3) := by decide +kernel
theorem dX12_isFull_123 : decode cX12_isFull 123 = .ok (.aload_n 0, 1) := by decide +kernel
theorem dX12_isFull_124 : decode cX12_isFull 124 = .ok (.getfield 265, 3) := by decide +kernel
theorem dX12_isFull_127 : decode cX12_isFull 127 = .ok (.baload, 1) := by decide +kernel
theorem dX12_isFull_128 : decode cX12_isFull 128 = .ok (.ireturn, 1) := by decide +kernel
theorem dX12_isFull_90 : decode cX12_isFull 90 = .ok (.aload_n 0, 1) := by decide +kernel
theorem dX12_isFull_91 : decode cX12_isFull 91 = .ok (.getfield 27, 3) := by decide +kernel
theorem dX12_isFull_94 : decode cX12_isFull 94 = .ok (.aload_n 0, 1) := by decide +kernel
theorem dX12_isFull_95 : decode cX12_isFull 95 = .ok (.getfield 265, 3) := by decide +kernel
theorem dX12_isFull_98 : decode cX12_isFull 98 = .ok (.iaload, 1) := by decide +kernel
theorem dX12_isFull_99 : decode cX12_isFull 99 = .ok (.iconst 5, 1) := by decide +kernel
theorem dX12_isFull_100 : decode cX12_isFull 100 = .ok (.if_icmp .ne 7, 3) := by decide +kernel
theorem dX12_isFull_107 : decode cX12_isFull 107 = .ok (.iconst 0, 1) := by decide +kernel
theorem dX12_isFull_108 : decode cX12_isFull 108 = .ok (.ireturn, 1) := by decide +kernel
theorem dX12_isFull_103 : decode cX12_isFull 103 = .ok (.iconst 1, 1) := by decide +kernel
theorem dX12_isFull_104 : decode cX12_isFull 104 = .ok (.goto 4, 3) := by decide +kernel
theorem dX12_isFull_70 : decode cX12_isFull 70 = .ok (.aload_n 0, 1) := by decide +kernel
theorem dX12_isFull_71 : decode cX12_isFull 71 = .ok (.getfield 63, 3) := by decide +kernel
theorem dX12_isFull_74 : decode cX12_isFull 74 = .ok (.aload_n 0, 1) := by decide +kernel
theorem dX12_isFull_75 : decode cX12_isFull 75 = .ok (.getfield 265, 3) := by decide +kernel
theorem dX12_isFull_78 : decode cX12_isFull 78 = .ok (.baload, 1) := by decide +kernel
theorem dX12_isFull_79 : decode cX12_isFull 79 = .ok (.ireturn, 1) := by decide +kernel
theorem dX12_isFull_40 : decode cX12_isFull 40 = .ok (.aload_n 0, 1) := by decide +kernel
theorem dX12_isFull_41 : decode cX12_isFull 41 = .ok (.getfield 24, 3) := by decide +kernel
theorem dX12_isFull_44 : decode cX12_isFull 44 = .ok (.aload_n 0, 1) := by decide +kernel
theorem dX12_isFull_45 : decode cX12_isFull 45 = .ok (.getfield 265, 3) := by decide +kernel
theorem dX12_isFull_48 : decode cX12_isFull 48 = .ok (.iaload, 1) := by decide +kernel
theorem dX12_isFull_49 : decode cX12_isFull 49 = .ok (.bipush 20, 2) := by decide +kernel
theorem dX12_isFull_51 : decode cX12_isFull 51 = .ok (.if_icmp .ne 7, 3) := by decide +kernel
theorem dX12_isFull_58 : decode cX12_isFull 58 = .ok (.iconst 0, 1) := by decide +kernel
theorem dX12_isFull_59 : decode cX12_isFull 59 = .ok (.ireturn, 1) := by decide +kernel
theorem dX12_isFull_54 : decode cX12_isFull 54 = .ok (.iconst 1, 1) := by decide +kernel
theorem dX12_isFull_55 : decode cX12_isFull 55 = .ok (.goto 4, 3) := by decide +kernel
theorem dX12_isFull_10 : decode cX12_isFull 10 = .ok (.aload_n 0, 1) := by decide +kernel
theorem dX12_isFull_11 : decode cX12_isFull 11 = .ok (.getfield 20, 3) := by decide +kernel
theorem dX12_isFull_14 : decode cX12_isFull 14 = .ok (.aload_n 0, 1) := by decide +kernel
theorem dX12_isFull_15 : decode cX12_isFull 15 = .ok (.getfield 265, 3) := by decide +kernel
theorem dX12_isFull_18 : decode cX12_isFull 18 = .ok (.iaload, 1) := by decide +kernel
theorem dX12_isFull_19 : decode cX12_isFull 19 = .ok (.bipush 9, 2) := by decide +kernel
theorem dX12_isFull_21 : decode cX12_isFull 21 = .ok (.if_icmp .ne 7, 3) := by decide +kernel
theorem dX12_isFull_28 : decode cX12_isFull 28 = .ok (.iconst 0, 1) := by decide +kernel
theorem dX12_isFull_29 : decode cX12_isFull 29 = .ok (.ireturn, 1) := by decide +kernel
theorem dX12_isFull_24 : decode cX12_isFull 24 = .ok (.iconst 1, 1) := by decide +kernel
theorem dX12_isFull_25 : decode cX12_isFull 25 = .ok (.goto 4, 3) := by decide +kernel
theorem dX12_numeral_53 : decode cX12_numeral 53 = .ok (.aload_n 0, 1) := by decide +kernel
theorem dX12_numeral_54 : decode cX12_numeral 54 = .ok (.getfield 231, 3) := by decide +kernel
theorem dX12_numeral_57 : decode cX12_numeral 57 = .ok (.istore_n 3, 1) := by decide +kernel
theorem dX12_numeral_58 : decode cX12_numeral 58 = .ok (.aload_n 0, 1) := by decide +kernel
theorem dX12_numeral_59 : decode cX12_numeral 59 = .ok (.invokevirtual 241, 3) := by decide +kernel
theorem dX12_numeral_62 : decode cX12_numeral 62 = .ok (.ifCond .eq 7, 3) := by decide +kernel
theorem dX12_numeral_65 : decode cX12_numeral 65 = .ok (.aload_n 0, 1) := by decide +kernel
theorem dX12_numeral_66 : decode cX12_numeral 66 = .ok (.invokevirtual 245, 3) := by decide +kernel
theorem dX12_numeral_69 : decode cX12_numeral 69 = .ok (.aload_n 0, 1) := by decide +kernel
theorem dX12_numeral_70 : decode cX12_numeral 70 = .ok (.invokevirtual 241, 3) := by decide +kernel
theorem dX12_numeral_73 : decode cX12_numeral 73 = .ok (.ifCond .eq 7, 3) := by decide +kernel
theorem dX12_numeral_76 : decode cX12_numeral 76 = .ok (.iload_n 3, 1) := by decide +kernel
theorem dX12_numeral_77 : decode cX12_numeral 77 = .ok (.goto 4, 3) := by decide +kernel
theorem dX12_numeral_81 : decode cX12_numeral 81 = .ok (.ireturn, 1) := by decide +kernel
theorem dX12_numeral_80 : decode cX12_numeral 80 = .ok (.iload_n 1, 1) := by decide +kernel
theorem dX12_numeral_0 : decode cX12_numeral 0 = .ok (.aload_n 0, 1) := by decide +kernel
theorem dX12_numeral_1 : decode cX12_numeral 1 = .ok (.invokevirtual 241, 3) := by decide +kernel
theorem dX12_numeral_4 : decode cX12_numeral 4 = .ok (.ifCond .ne 5, 3) := by decide +kernel
theorem dX12_numeral_9 : decode cX12_numeral 9 = .ok (.aload_n 0, 1) := by decide +kernel
theorem dX12_numeral_10 : decode cX12_numeral 10 = .ok (.getfield 213, 3) := by decide +kernel
theorem dX12_numeral_13 : decode cX12_numeral 13 = .ok (.iconst 4, 1) := by decide +kernel
theorem dX12_numeral_14 : decode cX12_numeral 14 = .ok (.if_icmp .eq 7, 3) := by decide +kernel
theorem dX12_numeral_21 : decode cX12_numeral 21 = .ok (.aload_n 0, 1) := by decide +kernel
theorem dX12_numeral_22 : decode cX12_numeral 22 = .ok (.invokevirtual 241, 3) := by decide +kernel
theorem dX12_numeral_25 : decode cX12_numeral 25 = .ok (.ifCond .eq 28, 3) := by decide +kernel
theorem dX12_numeral_28 : decode cX12_numeral 28 = .ok (.aload_n 0, 1) := by decide +kernel
theorem dX12_numeral_29 : decode cX12_numeral 29 = .ok (.getfield 231, 3) := by decide +kernel
theorem dX12_numeral_32 : decode cX12_numeral 32 = .ok (.iload_n 1, 1) := by decide +kernel
theorem dX12_numeral_33 : decode cX12_numeral 33 = .ok (.if_icmp .lt 11, 3) := by decide +kernel
theorem dX12_numeral_44 : decode cX12_numeral 44 = .ok (.aload_n 0, 1) := by decide +kernel
theorem dX12_numeral_45 : decode cX12_numeral 45 = .ok (.iconst 4, 1) := by decide +kernel
theorem dX12_numeral_46 : decode cX12_numeral 46 = .ok (.aload_n 0, 1) := by decide +kernel
theorem dX12_numeral_47 : decode cX12_numeral 47 = .ok (.getfield 206, 3) := by decide +kernel
theorem dX12_numeral_50 : decode cX12_numeral 50 = .ok (.invokevirtual 237, 3) := by decide +kernel
theorem dX12_numeral_36 : decode cX12_numeral 36 = .ok (.aload_n 0, 1) := by decide +kernel
theorem dX12_numeral_37 : decode cX12_numeral 37 = .ok (.getfield 231, 3) := by decide +kernel
theorem dX12_numeral_40 : decode cX12_numeral 40 = .ok (.iload_n 2, 1) := by decide +kernel
theorem dX12_numeral_41 : decode cX12_numeral 41 = .ok (.if_icmp .le 12, 3) := by decide +kernel
theorem dX12_numeral_17 : decode cX12_numeral 17 = .ok (.aload_n 0, 1) := by decide +kernel
theorem dX12_numeral_18 : decode cX12_numeral 18 = .ok (.invokevirtual 248, 3) := by decide +kernel
theorem dX12_numeral_7 : decode cX12_numeral 7 = .ok (.iload_n 1, 1) := by decide +kernel
theorem dX12_numeral_8 : decode cX12_numeral 8 = .ok (.ireturn, 1) := by decide +kernel
theorem dX12_known_0 : decode cX12_known 0 = .ok (.aload_n 0, 1) := by decide +kernel
theorem dX12_known_1 : decode cX12_known 1 = .ok (.invokevirtual 241, 3) := by decide +kernel
theorem dX12_known_4 : decode cX12_known 4 = .ok (.ifCond .ne 5, 3) := by decide +kernel
theorem dX12_known_9 : decode cX12_known 9 = .ok (.aload_n 0, 1) := by decide +kernel
theorem dX12_known_10 : decode cX12_known 10 = .ok (.getfield 213, 3) := by decide +kernel
theorem dX12_known_13 : decode cX12_known 13 = .ok (.iconst 2, 1) := by decide +kernel
theorem dX12_known_14 : decode cX12_known 14 = .ok (.if_icmp .eq 10, 3) := by decide +kernel
theorem dX12_known_24 : decode cX12_known 24 = .ok (.iload_n 1, 1) := by decide +kernel
theorem dX12_known_25 : decode cX12_known 25 = .ok (.ifCond .ge 15, 3) := by decide +kernel
theorem dX12_known_40 : decode cX12_known 40 = .ok (.aload_n 0, 1) := by decide +kernel
theorem dX12_known_41 : decode cX12_known 41 = .ok (.invokevirtual 245, 3) := by decide +kernel
theorem dX12_known_44 : decode cX12_known 44 = .ok (.iload_n 1, 1) := by decide +kernel
theorem dX12_known_45 : decode cX12_known 45 = .ok (.ifCond .ge 7, 3) := by decide +kernel
theorem dX12_known_52 : decode cX12_known 52 = .ok (.iload_n 1, 1) := by decide +kernel
theorem dX12_known_53 : decode cX12_known 53 = .ok (.ireturn, 1) := by decide +kernel
theorem dX12_known_48 : decode cX12_known 48 = .ok (.iconst 0, 1) := by decide +kernel
theorem dX12_known_49 : decode cX12_known 49 = .ok (.goto 4, 3) := by decide +kernel
theorem dX12_known_28 : decode cX12_known 28 = .ok (.aload_n 0, 1) := by decide +kernel
theorem dX12_known_29 : decode cX12_known 29 = .ok (.iconst 5, 1) := by decide +kernel
theorem dX12_known_30 : decode cX12_known 30 = .ok (.aload_n 0, 1) := by decide +kernel
theorem dX12_known_31 : decode cX12_known 31 = .ok (.getfield 206, 3) := by decide +kernel
theorem dX12_known_34 : decode cX12_known 34 = .ok (.invokevirtual 237, 3) := by decide +kernel
theorem dX12_known_37 : decode cX12_known 37 = .ok (.goto 7, 3) := by decide +kernel
theorem dX12_known_17 : decode cX12_known 17 = .ok (.aload_n 0, 1) := by decide +kernel
theorem dX12_known_18 : decode cX12_known 18 = .ok (.invokevirtual 248, 3) := by decide +kernel
theorem dX12_known_21 : decode cX12_known 21 = .ok (.goto 23, 3) := by decide +kernel
theorem dX12_known_7 : decode cX12_known 7 = .ok (.iconst 0, 1) := by decide +kernel
theorem dX12_known_8 : decode cX12_known 8 = .ok (.ireturn, 1) := by decide +kernel
theorem dX12_wordNamed_2 : decode cX12_wordNamed 2 = .ok (.iload_n 1, 1) := by decide +kernel
theorem dX12_wordNamed_3 : decode cX12_wordNamed 3 = .ok (.aload_n 0, 1) := by decide +kernel
theorem dX12_wordNamed_4 : decode cX12_wordNamed 4 = .ok (.getfield 20, 3) := by decide +kernel
theorem dX12_wordNamed_7 : decode cX12_wordNamed 7 = .ok (.aload_n 0, 1) := by decide +kernel
theorem dX12_wordNamed_8 : decode cX12_wordNamed 8 = .ok (.getfield 265, 3) := by decide +kernel
theorem dX12_wordNamed_11 : decode cX12_wordNamed 11 = .ok (.iaload, 1) := by decide +kernel
theorem dX12_wordNamed_12 : decode cX12_wordNamed 12 = .ok (.if_icmp .ge 41, 3) := by decide +kernel
theorem dX12_wordNamed_53 : decode cX12_wordNamed 53 = .ok (.iconst (-1), 1) := by decide +kernel
theorem dX12_wordNamed_54 : decode cX12_wordNamed 54 = .ok (.ireturn, 1) := by decide +kernel
theorem dX12_wordNamed_15 : decode cX12_wordNamed 15 = .ok (.aload_n 0, 1) := by decide +kernel
theorem dX12_wordNamed_16 : decode cX12_wordNamed 16 = .ok (.getfield 213, 3) := by decide +kernel
theorem dX12_wordNamed_19 : decode cX12_wordNamed 19 = .ok (.iconst 2, 1) := by decide +kernel
theorem dX12_wordNamed_20 : decode cX12_wordNamed 20 = .ok (.if_icmp .ne 27, 3) := by decide +kernel
theorem dX12_wordNamed_47 : decode cX12_wordNamed 47 = .ok (.iinc 1 1, 3) := by decide +kernel
theorem dX12_wordNamed_50 : decode cX12_wordNamed 50 = .ok (.goto (-48), 3) := by decide +kernel
theorem dX12_wordNamed_23 : decode cX12_wordNamed 23 = .ok (.aload_n 0, 1) := by decide +kernel
theorem dX12_wordNamed_24 : decode cX12_wordNamed 24 = .ok (.getfield 73, 3) := by decide +kernel
theorem dX12_wordNamed_27 : decode cX12_wordNamed 27 = .ok (.bipush 9, 2) := by decide +kernel
theorem dX12_wordNamed_29 : decode cX12_wordNamed 29 = .ok (.aload_n 0, 1) := by decide +kernel
theorem dX12_wordNamed_30 : decode cX12_wordNamed 30 = .ok (.getfield 265, 3) := by decide +kernel
theorem dX12_wordNamed_33 : decode cX12_wordNamed 33 = .ok (.imul, 1) := by decide +kernel
theorem dX12_wordNamed_34 : decode cX12_wordNamed 34 = .ok (.iload_n 1, 1) := by decide +kernel
theorem dX12_wordNamed_35 : decode cX12_wordNamed 35 = .ok (.iadd, 1) := by decide +kernel
theorem dX12_wordNamed_36 : decode cX12_wordNamed 36 = .ok (.laload, 1) := by decide +kernel
theorem dX12_wordNamed_37 : decode cX12_wordNamed 37 = .ok (.aload_n 0, 1) := by decide +kernel
theorem dX12_wordNamed_38 : decode cX12_wordNamed 38 = .ok (.getfield 220, 3) := by decide +kernel
theorem dX12_wordNamed_41 : decode cX12_wordNamed 41 = .ok (.lcmp, 1) := by decide +kernel
theorem dX12_wordNamed_42 : decode cX12_wordNamed 42 = .ok (.ifCond .ne 5, 3) := by decide +kernel
theorem dX12_wordNamed_45 : decode cX12_wordNamed 45 = .ok (.iload_n 1, 1) := by decide +kernel
theorem dX12_wordNamed_46 : decode cX12_wordNamed 46 = .ok (.ireturn, 1) := by decide +kernel
theorem dX12_wordNamed_0 : decode cX12_wordNamed 0 = .ok (.iconst 0, 1) := by decide +kernel
theorem dX12_wordNamed_1 : decode cX12_wordNamed 1 = .ok (.istore_n 1, 1) := by decide +kernel
theorem dX12_must_0 : decode cX12_must 0 = .ok (.aload_n 0, 1) := by decide +kernel
theorem dX12_must_1 : decode cX12_must 1 = .ok (.invokevirtual 241, 3) := by decide +kernel
theorem dX12_must_4 : decode cX12_must 4 = .ok (.ifCond .ne 4, 3) := by decide +kernel
theorem dX12_must_8 : decode cX12_must 8 = .ok (.iload_n 1, 1) := by decide +kernel
theorem dX12_must_9 : decode cX12_must 9 = .ok (.ifCond .eq 10, 3) := by decide +kernel
theorem dX12_must_19 : decode cX12_must 19 = .ok (.aload_n 0, 1) := by decide +kernel
theorem dX12_must_20 : decode cX12_must 20 = .ok (.invokevirtual 248, 3) := by decide +kernel
theorem dX12_must_23 : decode cX12_must 23 = .ok (.return_, 1) := by decide +kernel
theorem dX12_must_12 : decode cX12_must 12 = .ok (.aload_n 0, 1) := by decide +kernel
theorem dX12_must_13 : decode cX12_must 13 = .ok (.invokevirtual 245, 3) := by decide +kernel
theorem dX12_must_16 : decode cX12_must 16 = .ok (.goto 7, 3) := by decide +kernel
theorem dX12_must_7 : decode cX12_must 7 = .ok (.return_, 1) := by decide +kernel
/-- the name read last, as a number -/
def nm (ws : va_W) : Int := match ws[(0 : Nat)]? with
  | some (_, .inr (_, vs)) => (match vs[(10 : Nat)]? with
    | some (.long x) => x.toInt
    | _ => 0)
  | _ => 0
section HW8
variable {l : Launch} {E : (Nat → Prop) → State → Prop} {ad : List Nat} {D : va_G} {cy : Nat → ClassId} {A : Nat → Prop} {H0 : Heap} {p : Program} {e : Env} {R : Room} {s : State} {m : MethodId} {args : Array Value} {below : List Frame} {meth : Method} {c : Code} {Q : State → Prop} {cc : ByteArray} {nL : Nat} {own : String} {pc pc' : Nat} {lv lv' : List (Nat × Value)} {st : List Value} {ws : va_W}
theorem hr_gN (C : hC l E ad D cy A H0 p e R s m args below meth c Q cc nL own) {ts : List fx_T} {i a : Nat} {q : Int × Int} (ha : ad[0]? = some a) (hT : TM[0]? = some (.inl (12, ts))) (ht : ts[10]? = some (.inr (.inl q))) (hfl : fx_gl wsL_law nestW classes own (i, 12, 10)) (hdg : decode cc pc = .ok (.getfield i, 3)) (hp : pc + 3 = pc') (kk : ∀ x : Int64, x.toInt = nm ws → HW l E ad D cy A H0 p e R s m args below meth c Q cc nL own pc' lv (.long x :: st) ws) : HW l E ad D cy A H0 p e R s m args below meth c Q cc nL own pc lv (.ref a :: st) ws := fun H locs ls hl hh => by
  subst hp
  obtain ⟨vs, h1, h2, h3, -⟩ := tm_obj hh.1 ha hT
  obtain ⟨v, v1, x, rfl, x1, x2⟩ := h3 10 _ ht
  have kk' := kk x (by unfold nm; rw [h1]; simp only [v1])
  obtain ⟨C', T', N', c1, c2, c3, c4⟩ := hfl
  have hK := (C.2.2.2.2.2.1.1 _ _ C.2.2.2.2.2.2.1)
  rcases c4 with c4 | ⟨host, c4⟩
  · exact va_get C.1 C.2.1 C.2.2.2.1 c3 C.2.2.2.2.1 hK.1 hh.2.1 0 h1 c1 10 c2 (C.2.2.2.1 _ c4) (fun _ h9 => h9) v1 hdg (kk' H locs ls hl hh)
  · exact va_getN C.1 C.2.1 C.2.2.2.1 c3 C.2.2.2.2.1 hK.1 hh.2.1 0 h1 c1 10 c2 (va_Nw.use rfl (hK.2 _ c4)) (fun _ h9 => h9) v1 hdg (kk' H locs ls hl hh)
theorem hr_lcq (C : hC l E ad D cy A H0 p e R s m args below meth c Q cc nL own) {x y : Int64} (hdg : decode cc pc = .ok (.lcmp, 1)) (hp : pc + 1 = pc') (kk : ∀ z, (z = -1 ∨ z = 0 ∨ z = 1) → (z = 0 ↔ x.toInt = y.toInt) → HW l E ad D cy A H0 p e R s m args below meth c Q cc nL own pc' lv (zv z :: st) ws) : HW l E ad D cy A H0 p e R s m args below meth c Q cc nL own pc lv (.long y :: .long x :: st) ws := fun H locs ls hl hh => by
  subst hp
  refine W.lcmp C.1 C.2.1 hdg ?_
  have e : ∃ z, (z = -1 ∨ z = 0 ∨ z = 1) ∧ (z = 0 ↔ x.toInt = y.toInt) ∧ Value.int (lg_cmp x y) = zv z := by
    unfold lg_cmp
    split
    · rename_i c1
      have c2 := Int64.lt_iff_toInt_lt.mp c1
      exact ⟨1, Or.inr (Or.inr rfl), ⟨fun h => by omega, fun h => by omega⟩, rfl⟩
    · split
      · rename_i c2
        exact ⟨0, Or.inr (Or.inl rfl), ⟨fun _ => by rw [c2], fun _ => rfl⟩, rfl⟩
      · rename_i c2
        exact ⟨-1, Or.inl rfl, ⟨fun h => by omega, fun h => absurd (Int64.toInt_inj.mp h) c2⟩, rfl⟩
  obtain ⟨z, hz, hq, e⟩ := e
  rw [e]
  exact kk z hz hq H locs ls hl hh
theorem hr_lst (C : hC l E ad D cy A H0 p e R s m args below meth c Q cc nL own) {g a n : Nat} {z : Int} {y : Int64} (ha : ad[g]? = some a) (hT : TM[g]? = some (.inr (1, n, [.inr (.inl (-9223372036854775808, 9223372036854775807))]))) (h0 : 0 ≤ z) (h1 : z < n) (hn : n ≤ 100000) (hdg : decode cc pc = .ok (.lastore, 1)) (hp : pc + 1 = pc') (kk : ∀ ws', fx_wo (gsM, TM, cy, fun _ => True) ad ws' → fx_sm (gsM, TM, cy, fun _ => True) [(1000, g)] ws ws' → HW l E ad D cy A H0 p e R s m args below meth c Q cc nL own pc' lv st ws') : HW l E ad D cy A H0 p e R s m args below meth c Q cc nL own pc lv (.long y :: zv z :: .ref a :: st) ws := fun H locs ls hl hh => by
  subst hp
  obtain ⟨x, g1, ⟨f, rfl⟩, g3, g4⟩ := tm_arr hh.1 ha hT
  have hK := (C.2.2.2.2.2.1.1 _ _ C.2.2.2.2.2.2.1)
  have en := zv_n h0 (show z ≤ 2147483647 by omega)
  refine va_last C.1 C.2.1 hK.1 hh.2.1 hh.2.2.1 hh.2.2.2 g 1 g1 (ht_tys cy).2.1 (vp_in_iff.mpr ⟨by rw [zv_i ⟨by omega, by omega⟩]; omega, by rw [zv_i ⟨by omega, by omega⟩]; omega⟩) hdg ?_
  rw [en]
  intro H1 locs1 hP1 hD1 hS1
  have hwo : fx_wo (gsM, TM, cy, fun _ => True) ad (ws.set g (a, .inl (cy 1, n, .inr (.inl (vp_updL f z.toNat y))))) := by
    refine fx_wo_set hh.1 g1 g4 hT ⟨rfl, rfl, ⟨_, rfl⟩, fun j t hj ht => ?_⟩
    rw [show j % ([(.inr (.inl (-9223372036854775808, 9223372036854775807)) : fx_T)]).length = 0 from Nat.mod_one _] at ht
    simp only [List.getElem?_cons_zero, Option.some.injEq] at ht
    subst ht
    exact ok_l _
  exact kk _ hwo (fx_sm_arr fx_sm_refl g1 g4 (List.mem_singleton.mpr rfl)) H1 locs1 ls hl ⟨hwo, hP1, hD1, hS1⟩
theorem hr_bst (C : hC l E ad D cy A H0 p e R s m args below meth c Q cc nL own) {g a n : Nat} {z y : Int} (ha : ad[g]? = some a) (hT : TM[g]? = some (.inr (2, n, [.inl (-128, 127)]))) (h0 : 0 ≤ z) (h1 : z < n) (hn : n ≤ 100000) (hdg : decode cc pc = .ok (.bastore, 1)) (hp : pc + 1 = pc') (kk : ∀ ws', fx_wo (gsM, TM, cy, fun _ => True) ad ws' → fx_sm (gsM, TM, cy, fun _ => True) [(1000, g)] ws ws' → HW l E ad D cy A H0 p e R s m args below meth c Q cc nL own pc' lv st ws') : HW l E ad D cy A H0 p e R s m args below meth c Q cc nL own pc lv (zv y :: zv z :: .ref a :: st) ws := fun H locs ls hl hh => by
  subst hp
  obtain ⟨x, g1, ⟨f, rfl⟩, g3, g4⟩ := tm_arr hh.1 ha hT
  have hK := (C.2.2.2.2.2.1.1 _ _ C.2.2.2.2.2.2.1)
  have en := zv_n h0 (show z ≤ 2147483647 by omega)
  refine va_bast C.1 C.2.1 hK.1 hh.2.1 hh.2.2.1 hh.2.2.2 g 2 g1 (ht_tys cy).2.2.1 (vp_in_iff.mpr ⟨by rw [zv_i ⟨by omega, by omega⟩]; omega, by rw [zv_i ⟨by omega, by omega⟩]; omega⟩) hdg ?_
  rw [en]
  intro H1 locs1 hP1 hD1 hS1
  have hwo : fx_wo (gsM, TM, cy, fun _ => True) ad (ws.set g (a, .inl (cy 2, n, .inl (upd f z.toNat (vp_nar .byte (Int32.ofInt y)))))) := by
    refine fx_wo_set hh.1 g1 g4 hT ⟨rfl, rfl, ⟨_, rfl⟩, fun j t hj ht => ?_⟩
    by_cases e : j = z.toNat
    · subst e
      rw [show z.toNat % ([(.inl (-128, 127) : fx_T)]).length = 0 from Nat.mod_one _] at ht
      simp only [List.getElem?_cons_zero, Option.some.injEq] at ht
      subst ht
      have hr := lg_i2b_range (Int32.ofInt y)
      refine ⟨vp_nar .byte (Int32.ofInt y), ?_, by rw [fx_nar_b]; omega, by rw [fx_nar_b]; omega⟩
      simp only [fx_el, upd, if_true]
    · have := g3 j t hj ht
      simp only [fx_el, upd, e, if_false] at this ⊢
      exact this
  exact kk _ hwo (fx_sm_arr fx_sm_refl g1 g4 (List.mem_singleton.mpr rfl)) H1 locs1 ls hl ⟨hwo, hP1, hD1, hS1⟩
theorem rg_t (x : Int32) : rg x.toInt := by
  have h1 := Int32.le_toInt x
  have h2 := Int32.toInt_lt x
  exact ⟨by omega, by omega⟩
theorem hr_xiand (C : hC l E ad D cy A H0 p e R s m args below meth c Q cc nL own) {x y : Int} (hdg : decode cc pc = .ok (.iand, 1)) (hp : pc + 1 = pc') (kk : ∀ z, rg z → HW l E ad D cy A H0 p e R s m args below meth c Q cc nL own pc' lv (zv z :: st) ws) : HW l E ad D cy A H0 p e R s m args below meth c Q cc nL own pc lv (zv y :: zv x :: st) ws := fun H locs ls hl hh => by
  subst hp
  refine lv_iand C.1 C.2.1 hdg ?_
  rw [zv_of]
  exact kk _ (rg_t _) H locs ls hl hh
theorem hr_xior (C : hC l E ad D cy A H0 p e R s m args below meth c Q cc nL own) {x y : Int} (hdg : decode cc pc = .ok (.ior, 1)) (hp : pc + 1 = pc') (kk : ∀ z, rg z → HW l E ad D cy A H0 p e R s m args below meth c Q cc nL own pc' lv (zv z :: st) ws) : HW l E ad D cy A H0 p e R s m args below meth c Q cc nL own pc lv (zv y :: zv x :: st) ws := fun H locs ls hl hh => by
  subst hp
  refine lv_ior C.1 C.2.1 hdg ?_
  rw [zv_of]
  exact kk _ (rg_t _) H locs ls hl hh
theorem hr_xishl (C : hC l E ad D cy A H0 p e R s m args below meth c Q cc nL own) {x y : Int} (hdg : decode cc pc = .ok (.ishl, 1)) (hp : pc + 1 = pc') (kk : ∀ z, rg z → HW l E ad D cy A H0 p e R s m args below meth c Q cc nL own pc' lv (zv z :: st) ws) : HW l E ad D cy A H0 p e R s m args below meth c Q cc nL own pc lv (zv y :: zv x :: st) ws := fun H locs ls hl hh => by
  subst hp
  refine lv_ishl C.1 C.2.1 hdg ?_
  rw [zv_of]
  exact kk _ (rg_t _) H locs ls hl hh
theorem hr_xishr (C : hC l E ad D cy A H0 p e R s m args below meth c Q cc nL own) {x y : Int} (hdg : decode cc pc = .ok (.ishr, 1)) (hp : pc + 1 = pc') (kk : ∀ z, rg z → HW l E ad D cy A H0 p e R s m args below meth c Q cc nL own pc' lv (zv z :: st) ws) : HW l E ad D cy A H0 p e R s m args below meth c Q cc nL own pc lv (zv y :: zv x :: st) ws := fun H locs ls hl hh => by
  subst hp
  refine lv_ishr C.1 C.2.1 hdg ?_
  rw [zv_of]
  exact kk _ (rg_t _) H locs ls hl hh
end HW8

set_option maxRecDepth 100000 in
set_option maxHeartbeats 4000000 in
theorem h_isWord {l : Launch} {E : (Nat → Prop) → State → Prop} {ad : List Nat} {D : va_G} {cy : Nat → ClassId} (h : fx_env E D classes (tys cy) nestW) (r : Nat) (x : Int64) (hr0 : ad[0]? = some r) : hM l yX12_isWord cX12_isWord 3 (some .boolean) ({ frames := 0, cells := 0, slots := 0, locals := 0 }) E ad D cy (fun av ws => av = [.ref r, .long x] ∧ True) (fun _ ws rv ws1 => ws = ws1 ∧ rv = some (zv (if vi ws 0 8 = 3 ∧ nm ws = x.toInt then 1 else 0))) := by
  refine hM_of h (by decide) ?_
  intro av ws p e s m below meth c hwo hnd hpre hlocks hr C
  obtain ⟨rfl, hpre⟩ := hpre
  refine ⟨Nat.le_of_ble_eq_true rfl, ?_⟩
  refine hr_pick (lv' := [(0, .ref r), (1, .long x)]) [0, 1] rfl ?_
  refine hr_aln C 0 dX12_isWord_0 rfl rfl rfl ?_
  refine hr_gI (lo := -2147483648) (hi := 2147483647) C hr0 TM0 rfl fl_X12_213 dX12_isWord_1 rfl (fun b1 b2 => ?_)
  refine hr_ic C dX12_isWord_4 rfl ?_
  refine hr_cmp C 21 dX12_isWord_5 (by decide) ⟨by omega, by omega⟩ ⟨by omega, by omega⟩ rfl (fun c3 => ?_) (fun c3 => ?_)
  · have c3 : ¬ (vi ws 0 8 : Int) = 3 := c3
    refine hr_ic C dX12_isWord_21 rfl ?_
    exact hr_zret C hlocks hr (by omega) dX12_isWord_22 ⟨rfl, by first | rw [if_pos ⟨by omega, by omega⟩] | rw [if_neg (by omega)]⟩
  · have c3 : (vi ws 0 8 : Int) = 3 := c3
    refine hr_aln C 0 dX12_isWord_8 rfl rfl rfl ?_
    refine hr_gN C hr0 TM0 rfl fl_X12_220 dX12_isWord_9 rfl (fun x4 hx5 => ?_)
    refine hr_lln C 1 dX12_isWord_12 rfl rfl rfl ?_
    refine hr_lcq C dX12_isWord_13 rfl (fun z6 h7 h8 => ?_)
    refine hr_if C 21 dX12_isWord_14 (by decide) ⟨by omega, by omega⟩ rfl (fun c9 => ?_) (fun c9 => ?_)
    · have c9 : ¬ (z6 : Int) = 0 := c9
      refine hr_ic C dX12_isWord_21 rfl ?_
      exact hr_zret C hlocks hr (by omega) dX12_isWord_22 ⟨rfl, by first | rw [if_pos ⟨by omega, by omega⟩] | rw [if_neg (by omega)]⟩
    · have c9 : (z6 : Int) = 0 := c9
      refine hr_ic C dX12_isWord_17 rfl ?_
      refine hr_goto C 22 dX12_isWord_18 (by decide) ?_
      exact hr_zret C hlocks hr (by omega) dX12_isWord_22 ⟨rfl, by first | rw [if_pos ⟨by omega, by omega⟩] | rw [if_neg (by omega)]⟩
set_option maxRecDepth 100000 in
set_option maxHeartbeats 4000000 in
theorem h_isFull {l : Launch} {E : (Nat → Prop) → State → Prop} {ad : List Nat} {D : va_G} {cy : Nat → ClassId} (h : fx_env E D classes (tys cy) nestW) (r : Nat) (hr0 : ad[0]? = some r) : hM l yX12_isFull cX12_isFull 1 (some .boolean) ({ frames := 1, cells := 0, slots := 0, locals := 22 }) E ad D cy (fun av ws => av = [.ref r] ∧ True) (fun _ ws rv ws1 => ws = ws1 ∧ ∃ z, rv = some (zv z) ∧ (z = 0 ∨ z = 1) ∧ (z = 0 → (nm ws = 2003792484 ∧ ¬ vi ws 3 (Int.toNat (vi ws 0 35)) = 9) ∨ (nm ws = 108187867505765 ∧ ¬ vi ws 4 (Int.toNat (vi ws 0 35)) = 20) ∨ (nm ws = 7499639 ∧ vi ws 17 (Int.toNat (vi ws 0 35)) = 0) ∨ (nm ws = 1936484720 ∧ ¬ vi ws 5 (Int.toNat (vi ws 0 35)) = 5) ∨ (nm ws = 1835627379 ∧ vi ws 18 (Int.toNat (vi ws 0 35)) = 0) ∨ (nm ws = 1685217655 ∧ vi ws 19 (Int.toNat (vi ws 0 35)) = 0))) := by
  refine hM_of h (by decide) ?_
  intro av ws p e s m below meth c hwo hnd hpre hlocks hr C
  obtain ⟨rfl, hpre⟩ := hpre
  refine ⟨Nat.le_of_ble_eq_true rfl, ?_⟩
  refine hr_pick (lv' := [(0, .ref r)]) [0] rfl ?_
  refine hr_aln C 0 dX12_isFull_0 rfl rfl rfl ?_
  refine hr_ld2 C kc_X12_173 dX12_isFull_1 rfl ?_
  have hN2003792484 : (Int64.ofInt 2003792484).toInt = 2003792484 := by decide +kernel
  refine hr_cV (As := [.long (Int64.ofInt 2003792484)]) (rest := []) C (h_isWord h r (Int64.ofInt 2003792484) hr0) ⟨by decide, by decide⟩ iV_X12_isWord g_X12_251 TM0 hr0 dX12_isFull_4 rfl rfl (Nat.le_of_ble_eq_true rfl) rfl ⟨rfl, trivial⟩ (fun w1 rv o2 q3 => ?_)
  obtain ⟨rfl, rfl⟩ := q3
  obtain ⟨t4, et5⟩ : ∃ t, t = (if vi ws 0 8 = 3 ∧ nm ws = (Int64.ofInt 2003792484).toInt then 1 else 0 : Int) := ⟨_, rfl⟩
  rw [← et5]
  have e6 : (t4 = 1 ∧ (vi ws 0 8 = 3 ∧ nm ws = (Int64.ofInt 2003792484).toInt)) ∨ (t4 = 0 ∧ ¬ (vi ws 0 8 = 3 ∧ nm ws = (Int64.ofInt 2003792484).toInt)) := by rw [et5]; split <;> simp_all
  clear et5
  refine hr_norm (st' := [zv (t4)]) rfl ?_
  refine hr_if C 30 dX12_isFull_7 (by decide) ⟨by omega, by omega⟩ rfl (fun c7 => ?_) (fun c7 => ?_)
  · have c7 : (t4 : Int) = 0 := c7
    refine hr_aln C 0 dX12_isFull_30 rfl rfl rfl ?_
    refine hr_ld2 C kc_X12_177 dX12_isFull_31 rfl ?_
    have hN108187867505765 : (Int64.ofInt 108187867505765).toInt = 108187867505765 := by decide +kernel
    refine hr_cV (As := [.long (Int64.ofInt 108187867505765)]) (rest := []) C (h_isWord h r (Int64.ofInt 108187867505765) hr0) ⟨by decide, by decide⟩ iV_X12_isWord g_X12_251 TM0 hr0 dX12_isFull_34 rfl rfl (Nat.le_of_ble_eq_true rfl) rfl ⟨rfl, trivial⟩ (fun w8 rv o9 q10 => ?_)
    obtain ⟨rfl, rfl⟩ := q10
    obtain ⟨t11, et12⟩ : ∃ t, t = (if vi ws 0 8 = 3 ∧ nm ws = (Int64.ofInt 108187867505765).toInt then 1 else 0 : Int) := ⟨_, rfl⟩
    rw [← et12]
    have e13 : (t11 = 1 ∧ (vi ws 0 8 = 3 ∧ nm ws = (Int64.ofInt 108187867505765).toInt)) ∨ (t11 = 0 ∧ ¬ (vi ws 0 8 = 3 ∧ nm ws = (Int64.ofInt 108187867505765).toInt)) := by rw [et12]; split <;> simp_all
    clear et12
    refine hr_norm (st' := [zv (t11)]) rfl ?_
    refine hr_if C 60 dX12_isFull_37 (by decide) ⟨by omega, by omega⟩ rfl (fun c14 => ?_) (fun c14 => ?_)
    · have c14 : (t11 : Int) = 0 := c14
      refine hr_aln C 0 dX12_isFull_60 rfl rfl rfl ?_
      refine hr_ld2 C kc_X12_179 dX12_isFull_61 rfl ?_
      have hN7499639 : (Int64.ofInt 7499639).toInt = 7499639 := by decide +kernel
      refine hr_cV (As := [.long (Int64.ofInt 7499639)]) (rest := []) C (h_isWord h r (Int64.ofInt 7499639) hr0) ⟨by decide, by decide⟩ iV_X12_isWord g_X12_251 TM0 hr0 dX12_isFull_64 rfl rfl (Nat.le_of_ble_eq_true rfl) rfl ⟨rfl, trivial⟩ (fun w15 rv o16 q17 => ?_)
      obtain ⟨rfl, rfl⟩ := q17
      obtain ⟨t18, et19⟩ : ∃ t, t = (if vi ws 0 8 = 3 ∧ nm ws = (Int64.ofInt 7499639).toInt then 1 else 0 : Int) := ⟨_, rfl⟩
      rw [← et19]
      have e20 : (t18 = 1 ∧ (vi ws 0 8 = 3 ∧ nm ws = (Int64.ofInt 7499639).toInt)) ∨ (t18 = 0 ∧ ¬ (vi ws 0 8 = 3 ∧ nm ws = (Int64.ofInt 7499639).toInt)) := by rw [et19]; split <;> simp_all
      clear et19
      refine hr_norm (st' := [zv (t18)]) rfl ?_
      refine hr_if C 80 dX12_isFull_67 (by decide) ⟨by omega, by omega⟩ rfl (fun c21 => ?_) (fun c21 => ?_)
      · have c21 : (t18 : Int) = 0 := c21
        refine hr_aln C 0 dX12_isFull_80 rfl rfl rfl ?_
        refine hr_ld2 C kc_X12_181 dX12_isFull_81 rfl ?_
        have hN1936484720 : (Int64.ofInt 1936484720).toInt = 1936484720 := by decide +kernel
        refine hr_cV (As := [.long (Int64.ofInt 1936484720)]) (rest := []) C (h_isWord h r (Int64.ofInt 1936484720) hr0) ⟨by decide, by decide⟩ iV_X12_isWord g_X12_251 TM0 hr0 dX12_isFull_84 rfl rfl (Nat.le_of_ble_eq_true rfl) rfl ⟨rfl, trivial⟩ (fun w22 rv o23 q24 => ?_)
        obtain ⟨rfl, rfl⟩ := q24
        obtain ⟨t25, et26⟩ : ∃ t, t = (if vi ws 0 8 = 3 ∧ nm ws = (Int64.ofInt 1936484720).toInt then 1 else 0 : Int) := ⟨_, rfl⟩
        rw [← et26]
        have e27 : (t25 = 1 ∧ (vi ws 0 8 = 3 ∧ nm ws = (Int64.ofInt 1936484720).toInt)) ∨ (t25 = 0 ∧ ¬ (vi ws 0 8 = 3 ∧ nm ws = (Int64.ofInt 1936484720).toInt)) := by rw [et26]; split <;> simp_all
        clear et26
        refine hr_norm (st' := [zv (t25)]) rfl ?_
        refine hr_if C 109 dX12_isFull_87 (by decide) ⟨by omega, by omega⟩ rfl (fun c28 => ?_) (fun c28 => ?_)
        · have c28 : (t25 : Int) = 0 := c28
          refine hr_aln C 0 dX12_isFull_109 rfl rfl rfl ?_
          refine hr_ld2 C kc_X12_183 dX12_isFull_110 rfl ?_
          have hN1835627379 : (Int64.ofInt 1835627379).toInt = 1835627379 := by decide +kernel
          refine hr_cV (As := [.long (Int64.ofInt 1835627379)]) (rest := []) C (h_isWord h r (Int64.ofInt 1835627379) hr0) ⟨by decide, by decide⟩ iV_X12_isWord g_X12_251 TM0 hr0 dX12_isFull_113 rfl rfl (Nat.le_of_ble_eq_true rfl) rfl ⟨rfl, trivial⟩ (fun w29 rv o30 q31 => ?_)
          obtain ⟨rfl, rfl⟩ := q31
          obtain ⟨t32, et33⟩ : ∃ t, t = (if vi ws 0 8 = 3 ∧ nm ws = (Int64.ofInt 1835627379).toInt then 1 else 0 : Int) := ⟨_, rfl⟩
          rw [← et33]
          have e34 : (t32 = 1 ∧ (vi ws 0 8 = 3 ∧ nm ws = (Int64.ofInt 1835627379).toInt)) ∨ (t32 = 0 ∧ ¬ (vi ws 0 8 = 3 ∧ nm ws = (Int64.ofInt 1835627379).toInt)) := by rw [et33]; split <;> simp_all
          clear et33
          refine hr_norm (st' := [zv (t32)]) rfl ?_
          refine hr_if C 129 dX12_isFull_116 (by decide) ⟨by omega, by omega⟩ rfl (fun c35 => ?_) (fun c35 => ?_)
          · have c35 : (t32 : Int) = 0 := c35
            refine hr_aln C 0 dX12_isFull_129 rfl rfl rfl ?_
            refine hr_ld2 C kc_X12_185 dX12_isFull_130 rfl ?_
            have hN1685217655 : (Int64.ofInt 1685217655).toInt = 1685217655 := by decide +kernel
            refine hr_cV (As := [.long (Int64.ofInt 1685217655)]) (rest := []) C (h_isWord h r (Int64.ofInt 1685217655) hr0) ⟨by decide, by decide⟩ iV_X12_isWord g_X12_251 TM0 hr0 dX12_isFull_133 rfl rfl (Nat.le_of_ble_eq_true rfl) rfl ⟨rfl, trivial⟩ (fun w36 rv o37 q38 => ?_)
            obtain ⟨rfl, rfl⟩ := q38
            obtain ⟨t39, et40⟩ : ∃ t, t = (if vi ws 0 8 = 3 ∧ nm ws = (Int64.ofInt 1685217655).toInt then 1 else 0 : Int) := ⟨_, rfl⟩
            rw [← et40]
            have e41 : (t39 = 1 ∧ (vi ws 0 8 = 3 ∧ nm ws = (Int64.ofInt 1685217655).toInt)) ∨ (t39 = 0 ∧ ¬ (vi ws 0 8 = 3 ∧ nm ws = (Int64.ofInt 1685217655).toInt)) := by rw [et40]; split <;> simp_all
            clear et40
            refine hr_norm (st' := [zv (t39)]) rfl ?_
            refine hr_if C 151 dX12_isFull_136 (by decide) ⟨by omega, by omega⟩ rfl (fun c42 => ?_) (fun c42 => ?_)
            · have c42 : (t39 : Int) = 0 := c42
              refine hr_ic C dX12_isFull_151 rfl ?_
              refine hr_goto C 156 dX12_isFull_152 (by decide) ?_
              exact hr_zret C hlocks hr (by omega) dX12_isFull_156 ⟨rfl, _, rfl, by omega, fun h => by omega⟩
            · have c42 : ¬ (t39 : Int) = 0 := c42
              refine hr_aln C 0 dX12_isFull_139 rfl rfl rfl ?_
              refine hr_gA (g := 19) C hr0 TM0 rfl (by decide) fl_X12_70 dX12_isFull_140 rfl (fun a43 ha44 => ?_)
              refine hr_aln C 0 dX12_isFull_143 rfl rfl rfl ?_
              refine hr_gI (lo := 0) (hi := 1) C hr0 TM0 rfl fl_X12_265 dX12_isFull_144 rfl (fun b45 b46 => ?_)
              refine hr_zld C ha44 TMa_19 (by omega) (by omega) (by decide) dX12_isFull_147 rfl (fun b47 b48 => ?_)
              refine hr_if C 155 dX12_isFull_148 (by decide) ⟨by omega, by omega⟩ rfl (fun c49 => ?_) (fun c49 => ?_)
              · have c49 : (vi ws 19 (Int.toNat (vi ws 0 35)) : Int) = 0 := c49
                refine hr_ic C dX12_isFull_155 rfl ?_
                exact hr_zret C hlocks hr (by omega) dX12_isFull_156 ⟨rfl, _, rfl, by omega, fun h => by omega⟩
              · have c49 : ¬ (vi ws 19 (Int.toNat (vi ws 0 35)) : Int) = 0 := c49
                refine hr_ic C dX12_isFull_151 rfl ?_
                refine hr_goto C 156 dX12_isFull_152 (by decide) ?_
                exact hr_zret C hlocks hr (by omega) dX12_isFull_156 ⟨rfl, _, rfl, by omega, fun h => by omega⟩
          · have c35 : ¬ (t32 : Int) = 0 := c35
            refine hr_aln C 0 dX12_isFull_119 rfl rfl rfl ?_
            refine hr_gA (g := 18) C hr0 TM0 rfl (by decide) fl_X12_67 dX12_isFull_120 rfl (fun a50 ha51 => ?_)
            refine hr_aln C 0 dX12_isFull_123 rfl rfl rfl ?_
            refine hr_gI (lo := 0) (hi := 1) C hr0 TM0 rfl fl_X12_265 dX12_isFull_124 rfl (fun b52 b53 => ?_)
            refine hr_zld C ha51 TMa_18 (by omega) (by omega) (by decide) dX12_isFull_127 rfl (fun b54 b55 => ?_)
            exact hr_zret C hlocks hr (by omega) dX12_isFull_128 ⟨rfl, _, rfl, by omega, fun h => by omega⟩
        · have c28 : ¬ (t25 : Int) = 0 := c28
          refine hr_aln C 0 dX12_isFull_90 rfl rfl rfl ?_
          refine hr_gA (g := 5) C hr0 TM0 rfl (by decide) fl_X12_27 dX12_isFull_91 rfl (fun a56 ha57 => ?_)
          refine hr_aln C 0 dX12_isFull_94 rfl rfl rfl ?_
          refine hr_gI (lo := 0) (hi := 1) C hr0 TM0 rfl fl_X12_265 dX12_isFull_95 rfl (fun b58 b59 => ?_)
          refine hr_ald C ha57 TMa_5 (by omega) (by omega) (by decide) dX12_isFull_98 rfl (fun b60 b61 => ?_)
          have b60 := gp1 b60
          simp only [rg] at b61
          refine hr_ic C dX12_isFull_99 rfl ?_
          refine hr_cmp C 107 dX12_isFull_100 (by decide) ⟨by omega, by omega⟩ ⟨by omega, by omega⟩ rfl (fun c62 => ?_) (fun c62 => ?_)
          · have c62 : ¬ (vi ws 5 (Int.toNat (vi ws 0 35)) : Int) = 5 := c62
            refine hr_ic C dX12_isFull_107 rfl ?_
            exact hr_zret C hlocks hr (by omega) dX12_isFull_108 ⟨rfl, _, rfl, by omega, fun h => by omega⟩
          · have c62 : (vi ws 5 (Int.toNat (vi ws 0 35)) : Int) = 5 := c62
            refine hr_ic C dX12_isFull_103 rfl ?_
            refine hr_goto C 108 dX12_isFull_104 (by decide) ?_
            exact hr_zret C hlocks hr (by omega) dX12_isFull_108 ⟨rfl, _, rfl, by omega, fun h => by omega⟩
      · have c21 : ¬ (t18 : Int) = 0 := c21
        refine hr_aln C 0 dX12_isFull_70 rfl rfl rfl ?_
        refine hr_gA (g := 17) C hr0 TM0 rfl (by decide) fl_X12_63 dX12_isFull_71 rfl (fun a63 ha64 => ?_)
        refine hr_aln C 0 dX12_isFull_74 rfl rfl rfl ?_
        refine hr_gI (lo := 0) (hi := 1) C hr0 TM0 rfl fl_X12_265 dX12_isFull_75 rfl (fun b65 b66 => ?_)
        refine hr_zld C ha64 TMa_17 (by omega) (by omega) (by decide) dX12_isFull_78 rfl (fun b67 b68 => ?_)
        exact hr_zret C hlocks hr (by omega) dX12_isFull_79 ⟨rfl, _, rfl, by omega, fun h => by omega⟩
    · have c14 : ¬ (t11 : Int) = 0 := c14
      refine hr_aln C 0 dX12_isFull_40 rfl rfl rfl ?_
      refine hr_gA (g := 4) C hr0 TM0 rfl (by decide) fl_X12_24 dX12_isFull_41 rfl (fun a69 ha70 => ?_)
      refine hr_aln C 0 dX12_isFull_44 rfl rfl rfl ?_
      refine hr_gI (lo := 0) (hi := 1) C hr0 TM0 rfl fl_X12_265 dX12_isFull_45 rfl (fun b71 b72 => ?_)
      refine hr_ald C ha70 TMa_4 (by omega) (by omega) (by decide) dX12_isFull_48 rfl (fun b73 b74 => ?_)
      have b73 := gp1 b73
      simp only [rg] at b74
      refine hr_bi C dX12_isFull_49 (by decide +kernel) rfl ?_
      refine hr_cmp C 58 dX12_isFull_51 (by decide) ⟨by omega, by omega⟩ ⟨by omega, by omega⟩ rfl (fun c75 => ?_) (fun c75 => ?_)
      · have c75 : ¬ (vi ws 4 (Int.toNat (vi ws 0 35)) : Int) = 20 := c75
        refine hr_ic C dX12_isFull_58 rfl ?_
        exact hr_zret C hlocks hr (by omega) dX12_isFull_59 ⟨rfl, _, rfl, by omega, fun h => by omega⟩
      · have c75 : (vi ws 4 (Int.toNat (vi ws 0 35)) : Int) = 20 := c75
        refine hr_ic C dX12_isFull_54 rfl ?_
        refine hr_goto C 59 dX12_isFull_55 (by decide) ?_
        exact hr_zret C hlocks hr (by omega) dX12_isFull_59 ⟨rfl, _, rfl, by omega, fun h => by omega⟩
  · have c7 : ¬ (t4 : Int) = 0 := c7
    refine hr_aln C 0 dX12_isFull_10 rfl rfl rfl ?_
    refine hr_gA (g := 3) C hr0 TM0 rfl (by decide) fl_X12_20 dX12_isFull_11 rfl (fun a76 ha77 => ?_)
    refine hr_aln C 0 dX12_isFull_14 rfl rfl rfl ?_
    refine hr_gI (lo := 0) (hi := 1) C hr0 TM0 rfl fl_X12_265 dX12_isFull_15 rfl (fun b78 b79 => ?_)
    refine hr_ald C ha77 TMa_3 (by omega) (by omega) (by decide) dX12_isFull_18 rfl (fun b80 b81 => ?_)
    have b80 := gp1 b80
    simp only [rg] at b81
    refine hr_bi C dX12_isFull_19 (by decide +kernel) rfl ?_
    refine hr_cmp C 28 dX12_isFull_21 (by decide) ⟨by omega, by omega⟩ ⟨by omega, by omega⟩ rfl (fun c82 => ?_) (fun c82 => ?_)
    · have c82 : ¬ (vi ws 3 (Int.toNat (vi ws 0 35)) : Int) = 9 := c82
      refine hr_ic C dX12_isFull_28 rfl ?_
      exact hr_zret C hlocks hr (by omega) dX12_isFull_29 ⟨rfl, _, rfl, by omega, fun h => by omega⟩
    · have c82 : (vi ws 3 (Int.toNat (vi ws 0 35)) : Int) = 9 := c82
      refine hr_ic C dX12_isFull_24 rfl ?_
      refine hr_goto C 29 dX12_isFull_25 (by decide) ?_
      exact hr_zret C hlocks hr (by omega) dX12_isFull_29 ⟨rfl, _, rfl, by omega, fun h => by omega⟩
set_option maxRecDepth 100000 in
set_option maxHeartbeats 4000000 in
theorem h_numeral {l : Launch} {E : (Nat → Prop) → State → Prop} {ad : List Nat} {D : va_G} {cy : Nat → ClassId} (h : fx_env E D classes (tys cy) nestW) (r : Nat) (hr0 : ad[0]? = some r) : hM l yX12_numeral cX12_numeral 4 (some .int) ({ frames := 2, cells := 0, slots := 0, locals := 44 }) E ad D cy (fun av ws => av = [.ref r, zv 0, zv 999] ∧ vi ws 0 7 ≤ 1600) (fun _ ws rv ws1 => fx_sm (gsM, TM, cy, fun _ => True) [(12, 4), (12, 5), (12, 6), (12, 7), (12, 8), (12, 9), (12, 10)] ws ws1 ∧ vi ws1 0 7 ≤ 1600 ∧ ∃ z, rv = some (zv z) ∧ 0 ≤ z ∧ z ≤ 999) := by
  refine hM_of h (by decide) ?_
  intro av ws p e s m below meth c hwo hnd hpre hlocks hr C
  obtain ⟨rfl, hpre⟩ := hpre
  refine ⟨Nat.le_of_ble_eq_true rfl, ?_⟩
  refine hr_pick (lv' := [(0, .ref r), (1, zv 0), (2, zv 999)]) [0, 1, 2] rfl ?_
  have k53 : ∀ (w : va_W), fx_wo (gsM, TM, cy, fun _ => True) ad w → fx_sm (gsM, TM, cy, fun _ => True) [(12, 4), (12, 5), (12, 6), (12, 7), (12, 8), (12, 9), (12, 10)] ws w → vi w 0 7 ≤ 1600 → (vi w 0 4 = 0 → 0 ≤ vi w 0 9 ∧ vi w 0 9 ≤ 999) → HW l E ad D cy (va_A ws s.heap.size) s.heap p e ({ frames := 2, cells := 0, slots := 0, locals := 44 }) s m ([.ref r, zv 0, zv 999]).toArray below meth c (MQ below (hQ ad D cy (fun _ ws rv ws1 => fx_sm (gsM, TM, cy, fun _ => True) [(12, 4), (12, 5), (12, 6), (12, 7), (12, 8), (12, 9), (12, 10)] ws ws1 ∧ vi ws1 0 7 ≤ 1600 ∧ ∃ z, rv = some (zv z) ∧ 0 ≤ z ∧ z ≤ 999) ([.ref r, zv 0, zv 999]) ws s.heap.size) ([.ref r, zv 0, zv 999]).toArray s 0 0 (va_A ws s.heap.size)) cX12_numeral 4 yX12_numeral.cls 53 [(0, .ref r), (1, zv 0), (2, zv 999)] [] w := by
    intro w how sm he h9
    have h7b := fl_b (fi := 7) (lo := 0) (hi := 1601) how hr0 rfl
    refine hr_aln C 0 dX12_numeral_53 rfl rfl rfl ?_
    refine hr_gI (lo := -2147483648) (hi := 2147483647) C hr0 TM0 rfl fl_X12_231 dX12_numeral_54 rfl (fun b1 b2 => ?_)
    refine hr_isn (lv' := [(3, zv (vi w 0 9)), (0, .ref r), (1, zv (0)), (2, zv (999))]) C dX12_numeral_57 rfl (by decide) rfl rfl ?_
    refine hr_aln C 1 dX12_numeral_58 rfl rfl rfl ?_
    refine hr_cV (As := []) (rest := []) C (hM_fx (km293 h)) ⟨by decide, by decide⟩ iV_X12_isGood g_X12_241 TM0 hr0 dX12_numeral_59 rfl rfl (Nat.le_of_ble_eq_true rfl) rfl ⟨(ty_cons (ok_r hr0 (by decide) (by decide)) ty_nil), ⟨_, rfl⟩⟩ (fun w3 rv o4 q5 => ?_)
    obtain ⟨s6, po, hpo7, hrv8, hty9, rt, hfs10⟩ := q5
    replace s6 : fx_sm (gsM, TM, cy, fun _ => True) [] w w3 := s6
    simp only [km293_c, List.mem_cons, List.not_mem_nil, or_false] at hpo7
    rcases hpo7 with rfl | rfl
    · obtain ⟨v11, rfl, hv12⟩ := hrv8
      obtain ⟨z13, rfl, b14, b15, b16⟩ := ok_iz hv12
      simp only [rg] at b16
      obtain rfl : z13 = 1 := by omega
      have hf17 := fs_t hnd o4 hr0 rfl hfs10
      refine hr_norm (st' := [zv (1)]) rfl ?_
      refine hr_if C 69 dX12_numeral_62 (by decide) ⟨by omega, by omega⟩ rfl (fun c18 => absurd (show (1 : Int) = 0 from c18) (by omega)) (fun c18 => ?_)
      have c18 : ¬ (1 : Int) = 0 := c18
      refine hr_aln C 1 dX12_numeral_65 rfl rfl rfl ?_
      have h7 : vi w3 0 7 = vi w 0 7 := (by rw [sm_f how o4 s6 (by decide)])
      refine hr_cV (As := []) (rest := []) C (hM_fx (km292 h)) ⟨by decide, by decide⟩ iV_X12_goOn g_X12_245 TM0 hr0 dX12_numeral_66 rfl rfl (Nat.le_of_ble_eq_true rfl) rfl ⟨(ty_cons (ok_r hr0 (by decide) (by decide)) ty_nil), (fs_f o4 hr0 rfl ⟨_, _, rfl⟩ (by omega) (by omega))⟩ (fun w19 rv o20 q21 => ?_)
      obtain ⟨s22, po, hpo23, hrv24, hty25, rt, hfs26⟩ := q21
      replace s22 : fx_sm (gsM, TM, cy, fun _ => True) [(12, 6), (12, 7), (12, 8), (12, 9), (12, 10)] w3 w19 := s22
      simp only [km292_c, List.mem_cons, List.not_mem_nil, or_false] at hpo23
      subst hpo23
      obtain rfl := hrv24
      obtain ⟨⟨_, u27⟩, av28, g29, u30⟩ := fs_u (v0 := .ref r) rfl hfs26
      have hf31 := fs_t hnd o20 hr0 rfl u27
      have hf32 := fs_t hnd o20 hr0 g29 u30
      refine hr_norm (st' := []) rfl ?_
      refine hr_aln C 1 dX12_numeral_69 rfl rfl rfl ?_
      refine hr_cV (As := []) (rest := []) C (hM_fx (km293 h)) ⟨by decide, by decide⟩ iV_X12_isGood g_X12_241 TM0 hr0 dX12_numeral_70 rfl rfl (Nat.le_of_ble_eq_true rfl) rfl ⟨(ty_cons (ok_r hr0 (by decide) (by decide)) ty_nil), ⟨_, rfl⟩⟩ (fun w33 rv o34 q35 => ?_)
      obtain ⟨s36, po, hpo37, hrv38, hty39, rt, hfs40⟩ := q35
      replace s36 : fx_sm (gsM, TM, cy, fun _ => True) [] w19 w33 := s36
      simp only [km293_c, List.mem_cons, List.not_mem_nil, or_false] at hpo37
      rcases hpo37 with rfl | rfl
      · obtain ⟨v41, rfl, hv42⟩ := hrv38
        obtain ⟨z43, rfl, b44, b45, b46⟩ := ok_iz hv42
        simp only [rg] at b46
        obtain rfl : z43 = 1 := by omega
        have hf47 := fs_t hnd o34 hr0 rfl hfs40
        refine hr_norm (st' := [zv (1)]) rfl ?_
        refine hr_if C 80 dX12_numeral_73 (by decide) ⟨by omega, by omega⟩ rfl (fun c48 => absurd (show (1 : Int) = 0 from c48) (by omega)) (fun c48 => ?_)
        have c48 : ¬ (1 : Int) = 0 := c48
        refine hr_iln C 0 dX12_numeral_76 rfl rfl rfl ?_
        refine hr_goto C 81 dX12_numeral_77 (by decide) ?_
        have : vi w33 0 4 = vi w 0 4 := (by rw [sm_f o20 o34 s36 (by decide)]; rw [sm_f o4 o20 s22 (by decide)]; rw [sm_f how o4 s6 (by decide)])
        have : vi w19 0 4 = vi w 0 4 := (by rw [sm_f o4 o20 s22 (by decide)]; rw [sm_f how o4 s6 (by decide)])
        have : vi w3 0 4 = vi w 0 4 := (by rw [sm_f how o4 s6 (by decide)])
        exact hr_iret C hlocks hr dX12_numeral_81 ⟨(fx_sm_tr (fx_sm_tr (fx_sm_tr sm s6 (by decide)) s22 (by decide)) s36 (by decide)), (by rw [sm_f o20 o34 s36 (by decide)]; omega), _, rfl, by omega, by omega⟩
      · obtain ⟨v49, rfl, hv50⟩ := hrv38
        obtain ⟨z51, rfl, b52, b53, b54⟩ := ok_iz hv50
        simp only [rg] at b54
        obtain rfl : z51 = 0 := by omega
        have hf55 := fs_t hnd o34 hr0 rfl hfs40
        refine hr_norm (st' := [zv (0)]) rfl ?_
        refine hr_if C 80 dX12_numeral_73 (by decide) ⟨by omega, by omega⟩ rfl (fun c56 => ?_) (fun c56 => absurd (show ¬ (0 : Int) = 0 from c56) (by omega))
        have c56 : (0 : Int) = 0 := c56
        refine hr_iln C 2 dX12_numeral_80 rfl rfl rfl ?_
        have : vi w33 0 4 = vi w 0 4 := (by rw [sm_f o20 o34 s36 (by decide)]; rw [sm_f o4 o20 s22 (by decide)]; rw [sm_f how o4 s6 (by decide)])
        have : vi w19 0 4 = vi w 0 4 := (by rw [sm_f o4 o20 s22 (by decide)]; rw [sm_f how o4 s6 (by decide)])
        have : vi w3 0 4 = vi w 0 4 := (by rw [sm_f how o4 s6 (by decide)])
        exact hr_iret C hlocks hr dX12_numeral_81 ⟨(fx_sm_tr (fx_sm_tr (fx_sm_tr sm s6 (by decide)) s22 (by decide)) s36 (by decide)), (by rw [sm_f o20 o34 s36 (by decide)]; omega), _, rfl, by omega, by omega⟩
    · obtain ⟨v57, rfl, hv58⟩ := hrv8
      obtain ⟨z59, rfl, b60, b61, b62⟩ := ok_iz hv58
      simp only [rg] at b62
      obtain rfl : z59 = 0 := by omega
      have hf63 := fs_t hnd o4 hr0 rfl hfs10
      refine hr_norm (st' := [zv (0)]) rfl ?_
      refine hr_if C 69 dX12_numeral_62 (by decide) ⟨by omega, by omega⟩ rfl (fun c64 => ?_) (fun c64 => absurd (show ¬ (0 : Int) = 0 from c64) (by omega))
      have c64 : (0 : Int) = 0 := c64
      refine hr_aln C 1 dX12_numeral_69 rfl rfl rfl ?_
      refine hr_cV (As := []) (rest := []) C (hM_fx (km293 h)) ⟨by decide, by decide⟩ iV_X12_isGood g_X12_241 TM0 hr0 dX12_numeral_70 rfl rfl (Nat.le_of_ble_eq_true rfl) rfl ⟨(ty_cons (ok_r hr0 (by decide) (by decide)) ty_nil), ⟨_, rfl⟩⟩ (fun w65 rv o66 q67 => ?_)
      obtain ⟨s68, po, hpo69, hrv70, hty71, rt, hfs72⟩ := q67
      replace s68 : fx_sm (gsM, TM, cy, fun _ => True) [] w3 w65 := s68
      simp only [km293_c, List.mem_cons, List.not_mem_nil, or_false] at hpo69
      rcases hpo69 with rfl | rfl
      · obtain ⟨v73, rfl, hv74⟩ := hrv70
        obtain ⟨z75, rfl, b76, b77, b78⟩ := ok_iz hv74
        simp only [rg] at b78
        obtain rfl : z75 = 1 := by omega
        have hf79 := fs_t hnd o66 hr0 rfl hfs72
        refine hr_norm (st' := [zv (1)]) rfl ?_
        refine hr_if C 80 dX12_numeral_73 (by decide) ⟨by omega, by omega⟩ rfl (fun c80 => absurd (show (1 : Int) = 0 from c80) (by omega)) (fun c80 => ?_)
        have c80 : ¬ (1 : Int) = 0 := c80
        refine hr_iln C 0 dX12_numeral_76 rfl rfl rfl ?_
        refine hr_goto C 81 dX12_numeral_77 (by decide) ?_
        have : vi w65 0 4 = vi w 0 4 := (by rw [sm_f o4 o66 s68 (by decide)]; rw [sm_f how o4 s6 (by decide)])
        have : vi w3 0 4 = vi w 0 4 := (by rw [sm_f how o4 s6 (by decide)])
        exact hr_iret C hlocks hr dX12_numeral_81 ⟨(fx_sm_tr (fx_sm_tr sm s6 (by decide)) s68 (by decide)), (by rw [sm_f o4 o66 s68 (by decide)]; rw [sm_f how o4 s6 (by decide)]; omega), _, rfl, by omega, by omega⟩
      · obtain ⟨v81, rfl, hv82⟩ := hrv70
        obtain ⟨z83, rfl, b84, b85, b86⟩ := ok_iz hv82
        simp only [rg] at b86
        obtain rfl : z83 = 0 := by omega
        have hf87 := fs_t hnd o66 hr0 rfl hfs72
        refine hr_norm (st' := [zv (0)]) rfl ?_
        refine hr_if C 80 dX12_numeral_73 (by decide) ⟨by omega, by omega⟩ rfl (fun c88 => ?_) (fun c88 => absurd (show ¬ (0 : Int) = 0 from c88) (by omega))
        have c88 : (0 : Int) = 0 := c88
        refine hr_iln C 2 dX12_numeral_80 rfl rfl rfl ?_
        have : vi w65 0 4 = vi w 0 4 := (by rw [sm_f o4 o66 s68 (by decide)]; rw [sm_f how o4 s6 (by decide)])
        have : vi w3 0 4 = vi w 0 4 := (by rw [sm_f how o4 s6 (by decide)])
        exact hr_iret C hlocks hr dX12_numeral_81 ⟨(fx_sm_tr (fx_sm_tr sm s6 (by decide)) s68 (by decide)), (by rw [sm_f o4 o66 s68 (by decide)]; rw [sm_f how o4 s6 (by decide)]; omega), _, rfl, by omega, by omega⟩
  have he := hpre
  refine hr_aln C 0 dX12_numeral_0 rfl rfl rfl ?_
  refine hr_cV (As := []) (rest := []) C (hM_fx (km293 h)) ⟨by decide, by decide⟩ iV_X12_isGood g_X12_241 TM0 hr0 dX12_numeral_1 rfl rfl (Nat.le_of_ble_eq_true rfl) rfl ⟨(ty_cons (ok_r hr0 (by decide) (by decide)) ty_nil), ⟨_, rfl⟩⟩ (fun w1 rv o2 q3 => ?_)
  obtain ⟨s4, po, hpo5, hrv6, hty7, rt, hfs8⟩ := q3
  replace s4 : fx_sm (gsM, TM, cy, fun _ => True) [] ws w1 := s4
  simp only [km293_c, List.mem_cons, List.not_mem_nil, or_false] at hpo5
  rcases hpo5 with rfl | rfl
  · obtain ⟨v9, rfl, hv10⟩ := hrv6
    obtain ⟨z11, rfl, b12, b13, b14⟩ := ok_iz hv10
    simp only [rg] at b14
    obtain rfl : z11 = 1 := by omega
    have hf15 := fs_t hnd o2 hr0 rfl hfs8
    refine hr_norm (st' := [zv (1)]) rfl ?_
    refine hr_if C 9 dX12_numeral_4 (by decide) ⟨by omega, by omega⟩ rfl (fun c16 => ?_) (fun c16 => absurd (show (1 : Int) = 0 from c16) (by omega))
    have c16 : ¬ (1 : Int) = 0 := c16
    refine hr_aln C 0 dX12_numeral_9 rfl rfl rfl ?_
    refine hr_gI (lo := -2147483648) (hi := 2147483647) C hr0 TM0 rfl fl_X12_213 dX12_numeral_10 rfl (fun b17 b18 => ?_)
    have q19 : vi w1 0 8 = vi ws 0 8 := by rw [sm_f hwo o2 s4 (by decide)]
    rw [q19] at b17 b18 ⊢
    refine hr_ic C dX12_numeral_13 rfl ?_
    refine hr_cmp C 21 dX12_numeral_14 (by decide) ⟨by omega, by omega⟩ ⟨by omega, by omega⟩ rfl (fun c20 => ?_) (fun c20 => ?_)
    · have c20 : (vi ws 0 8 : Int) = 4 := c20
      refine hr_aln C 0 dX12_numeral_21 rfl rfl rfl ?_
      refine hr_cV (As := []) (rest := []) C (hM_fx (km293 h)) ⟨by decide, by decide⟩ iV_X12_isGood g_X12_241 TM0 hr0 dX12_numeral_22 rfl rfl (Nat.le_of_ble_eq_true rfl) rfl ⟨(ty_cons (ok_r hr0 (by decide) (by decide)) ty_nil), ⟨_, rfl⟩⟩ (fun w21 rv o22 q23 => ?_)
      obtain ⟨s24, po, hpo25, hrv26, hty27, rt, hfs28⟩ := q23
      replace s24 : fx_sm (gsM, TM, cy, fun _ => True) [] w1 w21 := s24
      simp only [km293_c, List.mem_cons, List.not_mem_nil, or_false] at hpo25
      rcases hpo25 with rfl | rfl
      · obtain ⟨v29, rfl, hv30⟩ := hrv26
        obtain ⟨z31, rfl, b32, b33, b34⟩ := ok_iz hv30
        simp only [rg] at b34
        obtain rfl : z31 = 1 := by omega
        have hf35 := fs_t hnd o22 hr0 rfl hfs28
        refine hr_norm (st' := [zv (1)]) rfl ?_
        refine hr_if C 53 dX12_numeral_25 (by decide) ⟨by omega, by omega⟩ rfl (fun c36 => absurd (show (1 : Int) = 0 from c36) (by omega)) (fun c36 => ?_)
        have c36 : ¬ (1 : Int) = 0 := c36
        refine hr_aln C 0 dX12_numeral_28 rfl rfl rfl ?_
        refine hr_gI (lo := -2147483648) (hi := 2147483647) C hr0 TM0 rfl fl_X12_231 dX12_numeral_29 rfl (fun b37 b38 => ?_)
        have q39 : vi w21 0 9 = vi ws 0 9 := by rw [sm_f o2 o22 s24 (by decide)]; rw [sm_f hwo o2 s4 (by decide)]
        rw [q39] at b37 b38 ⊢
        refine hr_iln C 1 dX12_numeral_32 rfl rfl rfl ?_
        refine hr_cmp C 44 dX12_numeral_33 (by decide) ⟨by omega, by omega⟩ ⟨by omega, by omega⟩ rfl (fun c40 => ?_) (fun c40 => ?_)
        · have c40 : (vi ws 0 9 : Int) < 0 := c40
          refine hr_aln C 0 dX12_numeral_44 rfl rfl rfl ?_
          refine hr_ic C dX12_numeral_45 rfl ?_
          refine hr_aln C 0 dX12_numeral_46 rfl rfl rfl ?_
          refine hr_gI (lo := 0) (hi := 1600) C hr0 TM0 rfl fl_X12_206 dX12_numeral_47 rfl (fun b41 b42 => ?_)
          have q43 : vi w21 0 6 = vi ws 0 6 := by rw [sm_f o2 o22 s24 (by decide)]; rw [sm_f hwo o2 s4 (by decide)]
          rw [q43] at b41 b42 ⊢
          refine hr_cV (As := [zv (4), zv (vi ws 0 6)]) (rest := []) C (hM_fx (km294 h)) ⟨by decide, by decide⟩ iV_X12_fails g_X12_237 TM0 hr0 dX12_numeral_50 rfl rfl (Nat.le_of_ble_eq_true rfl) rfl ⟨(ty_cons (ok_r hr0 (by decide) (by decide)) (ty_cons (ok_z (by decide) (by decide) (by omega) (by omega)) (ty_cons (ok_z (by decide) (by decide) (by omega) (by omega)) ty_nil))), ⟨_, rfl⟩⟩ (fun w44 rv o45 q46 => ?_)
          obtain ⟨s47, po, hpo48, hrv49, hty50, rt, hfs51⟩ := q46
          replace s47 : fx_sm (gsM, TM, cy, fun _ => True) [(12, 4), (12, 5)] w21 w44 := s47
          simp only [km294_c, List.mem_cons, List.not_mem_nil, or_false] at hpo48
          subst hpo48
          obtain rfl := hrv49
          have hf52 := fs_t hnd o45 hr0 rfl hfs51
          refine hr_norm (st' := []) rfl ?_
          refine hr_pick (lv' := [(0, .ref r), (1, zv (0)), (2, zv (999))]) [0, 1, 2] rfl ?_
          have : vi w44 0 4 = vi w44 0 4 := rfl
          have : vi w21 0 4 = vi ws 0 4 := (by rw [sm_f o2 o22 s24 (by decide)]; rw [sm_f hwo o2 s4 (by decide)])
          have : vi w1 0 4 = vi ws 0 4 := (by rw [sm_f hwo o2 s4 (by decide)])
          have : vi w44 0 9 = vi ws 0 9 := (by rw [sm_f o22 o45 s47 (by decide)]; rw [sm_f o2 o22 s24 (by decide)]; rw [sm_f hwo o2 s4 (by decide)])
          exact k53 _ o45 (fx_sm_tr (fx_sm_tr (fx_sm_tr fx_sm_refl s4 (by decide)) s24 (by decide)) s47 (by decide)) (by rw [sm_f o22 o45 s47 (by decide)]; rw [sm_f o2 o22 s24 (by decide)]; rw [sm_f hwo o2 s4 (by decide)]; omega) (fun h => by omega)
        · have c40 : (0 : Int) ≤ vi ws 0 9 := c40
          refine hr_aln C 0 dX12_numeral_36 rfl rfl rfl ?_
          refine hr_gI (lo := -2147483648) (hi := 2147483647) C hr0 TM0 rfl fl_X12_231 dX12_numeral_37 rfl (fun b53 b54 => ?_)
          have q55 : vi w21 0 9 = vi ws 0 9 := by rw [sm_f o2 o22 s24 (by decide)]; rw [sm_f hwo o2 s4 (by decide)]
          rw [q55] at b53 b54 ⊢
          refine hr_iln C 2 dX12_numeral_40 rfl rfl rfl ?_
          refine hr_cmp C 53 dX12_numeral_41 (by decide) ⟨by omega, by omega⟩ ⟨by omega, by omega⟩ rfl (fun c56 => ?_) (fun c56 => ?_)
          · have c56 : (vi ws 0 9 : Int) ≤ 999 := c56
            refine hr_pick (lv' := [(0, .ref r), (1, zv (0)), (2, zv (999))]) [0, 1, 2] rfl ?_
            have : vi w21 0 4 = vi ws 0 4 := (by rw [sm_f o2 o22 s24 (by decide)]; rw [sm_f hwo o2 s4 (by decide)])
            have : vi w1 0 4 = vi ws 0 4 := (by rw [sm_f hwo o2 s4 (by decide)])
            have : vi w21 0 9 = vi ws 0 9 := (by rw [sm_f o2 o22 s24 (by decide)]; rw [sm_f hwo o2 s4 (by decide)])
            exact k53 _ o22 (fx_sm_tr (fx_sm_tr fx_sm_refl s4 (by decide)) s24 (by decide)) (by rw [sm_f o2 o22 s24 (by decide)]; rw [sm_f hwo o2 s4 (by decide)]; omega) (fun h => by omega)
          · have c56 : (999 : Int) < vi ws 0 9 := c56
            refine hr_aln C 0 dX12_numeral_44 rfl rfl rfl ?_
            refine hr_ic C dX12_numeral_45 rfl ?_
            refine hr_aln C 0 dX12_numeral_46 rfl rfl rfl ?_
            refine hr_gI (lo := 0) (hi := 1600) C hr0 TM0 rfl fl_X12_206 dX12_numeral_47 rfl (fun b57 b58 => ?_)
            have q59 : vi w21 0 6 = vi ws 0 6 := by rw [sm_f o2 o22 s24 (by decide)]; rw [sm_f hwo o2 s4 (by decide)]
            rw [q59] at b57 b58 ⊢
            refine hr_cV (As := [zv (4), zv (vi ws 0 6)]) (rest := []) C (hM_fx (km294 h)) ⟨by decide, by decide⟩ iV_X12_fails g_X12_237 TM0 hr0 dX12_numeral_50 rfl rfl (Nat.le_of_ble_eq_true rfl) rfl ⟨(ty_cons (ok_r hr0 (by decide) (by decide)) (ty_cons (ok_z (by decide) (by decide) (by omega) (by omega)) (ty_cons (ok_z (by decide) (by decide) (by omega) (by omega)) ty_nil))), ⟨_, rfl⟩⟩ (fun w60 rv o61 q62 => ?_)
            obtain ⟨s63, po, hpo64, hrv65, hty66, rt, hfs67⟩ := q62
            replace s63 : fx_sm (gsM, TM, cy, fun _ => True) [(12, 4), (12, 5)] w21 w60 := s63
            simp only [km294_c, List.mem_cons, List.not_mem_nil, or_false] at hpo64
            subst hpo64
            obtain rfl := hrv65
            have hf68 := fs_t hnd o61 hr0 rfl hfs67
            refine hr_norm (st' := []) rfl ?_
            refine hr_pick (lv' := [(0, .ref r), (1, zv (0)), (2, zv (999))]) [0, 1, 2] rfl ?_
            have : vi w60 0 4 = vi w60 0 4 := rfl
            have : vi w21 0 4 = vi ws 0 4 := (by rw [sm_f o2 o22 s24 (by decide)]; rw [sm_f hwo o2 s4 (by decide)])
            have : vi w1 0 4 = vi ws 0 4 := (by rw [sm_f hwo o2 s4 (by decide)])
            have : vi w60 0 9 = vi ws 0 9 := (by rw [sm_f o22 o61 s63 (by decide)]; rw [sm_f o2 o22 s24 (by decide)]; rw [sm_f hwo o2 s4 (by decide)])
            exact k53 _ o61 (fx_sm_tr (fx_sm_tr (fx_sm_tr fx_sm_refl s4 (by decide)) s24 (by decide)) s63 (by decide)) (by rw [sm_f o22 o61 s63 (by decide)]; rw [sm_f o2 o22 s24 (by decide)]; rw [sm_f hwo o2 s4 (by decide)]; omega) (fun h => by omega)
      · obtain ⟨v69, rfl, hv70⟩ := hrv26
        obtain ⟨z71, rfl, b72, b73, b74⟩ := ok_iz hv70
        simp only [rg] at b74
        obtain rfl : z71 = 0 := by omega
        have hf75 := fs_t hnd o22 hr0 rfl hfs28
        refine hr_norm (st' := [zv (0)]) rfl ?_
        refine hr_if C 53 dX12_numeral_25 (by decide) ⟨by omega, by omega⟩ rfl (fun c76 => ?_) (fun c76 => absurd (show ¬ (0 : Int) = 0 from c76) (by omega))
        have c76 : (0 : Int) = 0 := c76
        refine hr_pick (lv' := [(0, .ref r), (1, zv (0)), (2, zv (999))]) [0, 1, 2] rfl ?_
        have : vi w21 0 4 = vi ws 0 4 := (by rw [sm_f o2 o22 s24 (by decide)]; rw [sm_f hwo o2 s4 (by decide)])
        have : vi w1 0 4 = vi ws 0 4 := (by rw [sm_f hwo o2 s4 (by decide)])
        have : vi w21 0 9 = vi ws 0 9 := (by rw [sm_f o2 o22 s24 (by decide)]; rw [sm_f hwo o2 s4 (by decide)])
        exact k53 _ o22 (fx_sm_tr (fx_sm_tr fx_sm_refl s4 (by decide)) s24 (by decide)) (by rw [sm_f o2 o22 s24 (by decide)]; rw [sm_f hwo o2 s4 (by decide)]; omega) (fun h => by omega)
    · have c20 : ¬ (vi ws 0 8 : Int) = 4 := c20
      refine hr_aln C 0 dX12_numeral_17 rfl rfl rfl ?_
      refine hr_cV (As := []) (rest := []) C (hM_fx (km295 h)) ⟨by decide, by decide⟩ iV_X12_misplaced g_X12_248 TM0 hr0 dX12_numeral_18 rfl rfl (Nat.le_of_ble_eq_true rfl) rfl ⟨(ty_cons (ok_r hr0 (by decide) (by decide)) ty_nil), ⟨_, rfl⟩⟩ (fun w77 rv o78 q79 => ?_)
      obtain ⟨s80, po, hpo81, hrv82, hty83, rt, hfs84⟩ := q79
      replace s80 : fx_sm (gsM, TM, cy, fun _ => True) [(12, 4), (12, 5)] w1 w77 := s80
      simp only [km295_c, List.mem_cons, List.not_mem_nil, or_false] at hpo81
      subst hpo81
      obtain rfl := hrv82
      have hf85 := fs_t hnd o78 hr0 rfl hfs84
      refine hr_norm (st' := []) rfl ?_
      refine hr_aln C 0 dX12_numeral_21 rfl rfl rfl ?_
      refine hr_cV (As := []) (rest := []) C (hM_fx (km293 h)) ⟨by decide, by decide⟩ iV_X12_isGood g_X12_241 TM0 hr0 dX12_numeral_22 rfl rfl (Nat.le_of_ble_eq_true rfl) rfl ⟨(ty_cons (ok_r hr0 (by decide) (by decide)) ty_nil), ⟨_, rfl⟩⟩ (fun w86 rv o87 q88 => ?_)
      obtain ⟨s89, po, hpo90, hrv91, hty92, rt, hfs93⟩ := q88
      replace s89 : fx_sm (gsM, TM, cy, fun _ => True) [] w77 w86 := s89
      simp only [km293_c, List.mem_cons, List.not_mem_nil, or_false] at hpo90
      rcases hpo90 with rfl | rfl
      · obtain ⟨v94, rfl, hv95⟩ := hrv91
        obtain ⟨z96, rfl, b97, b98, b99⟩ := ok_iz hv95
        simp only [rg] at b99
        obtain rfl : z96 = 1 := by omega
        have hf100 := fs_t hnd o87 hr0 rfl hfs93
        refine hr_norm (st' := [zv (1)]) rfl ?_
        refine hr_if C 53 dX12_numeral_25 (by decide) ⟨by omega, by omega⟩ rfl (fun c101 => absurd (show (1 : Int) = 0 from c101) (by omega)) (fun c101 => ?_)
        have c101 : ¬ (1 : Int) = 0 := c101
        refine hr_aln C 0 dX12_numeral_28 rfl rfl rfl ?_
        refine hr_gI (lo := -2147483648) (hi := 2147483647) C hr0 TM0 rfl fl_X12_231 dX12_numeral_29 rfl (fun b102 b103 => ?_)
        have q104 : vi w86 0 9 = vi ws 0 9 := by rw [sm_f o78 o87 s89 (by decide)]; rw [sm_f o2 o78 s80 (by decide)]; rw [sm_f hwo o2 s4 (by decide)]
        rw [q104] at b102 b103 ⊢
        refine hr_iln C 1 dX12_numeral_32 rfl rfl rfl ?_
        refine hr_cmp C 44 dX12_numeral_33 (by decide) ⟨by omega, by omega⟩ ⟨by omega, by omega⟩ rfl (fun c105 => ?_) (fun c105 => ?_)
        · have c105 : (vi ws 0 9 : Int) < 0 := c105
          refine hr_aln C 0 dX12_numeral_44 rfl rfl rfl ?_
          refine hr_ic C dX12_numeral_45 rfl ?_
          refine hr_aln C 0 dX12_numeral_46 rfl rfl rfl ?_
          refine hr_gI (lo := 0) (hi := 1600) C hr0 TM0 rfl fl_X12_206 dX12_numeral_47 rfl (fun b106 b107 => ?_)
          have q108 : vi w86 0 6 = vi ws 0 6 := by rw [sm_f o78 o87 s89 (by decide)]; rw [sm_f o2 o78 s80 (by decide)]; rw [sm_f hwo o2 s4 (by decide)]
          rw [q108] at b106 b107 ⊢
          refine hr_cV (As := [zv (4), zv (vi ws 0 6)]) (rest := []) C (hM_fx (km294 h)) ⟨by decide, by decide⟩ iV_X12_fails g_X12_237 TM0 hr0 dX12_numeral_50 rfl rfl (Nat.le_of_ble_eq_true rfl) rfl ⟨(ty_cons (ok_r hr0 (by decide) (by decide)) (ty_cons (ok_z (by decide) (by decide) (by omega) (by omega)) (ty_cons (ok_z (by decide) (by decide) (by omega) (by omega)) ty_nil))), ⟨_, rfl⟩⟩ (fun w109 rv o110 q111 => ?_)
          obtain ⟨s112, po, hpo113, hrv114, hty115, rt, hfs116⟩ := q111
          replace s112 : fx_sm (gsM, TM, cy, fun _ => True) [(12, 4), (12, 5)] w86 w109 := s112
          simp only [km294_c, List.mem_cons, List.not_mem_nil, or_false] at hpo113
          subst hpo113
          obtain rfl := hrv114
          have hf117 := fs_t hnd o110 hr0 rfl hfs116
          refine hr_norm (st' := []) rfl ?_
          refine hr_pick (lv' := [(0, .ref r), (1, zv (0)), (2, zv (999))]) [0, 1, 2] rfl ?_
          have : vi w109 0 4 = vi w109 0 4 := rfl
          have : vi w86 0 4 = vi w77 0 4 := (by rw [sm_f o78 o87 s89 (by decide)])
          have : vi w77 0 4 = vi w77 0 4 := rfl
          have : vi w1 0 4 = vi ws 0 4 := (by rw [sm_f hwo o2 s4 (by decide)])
          have : vi w109 0 9 = vi ws 0 9 := (by rw [sm_f o87 o110 s112 (by decide)]; rw [sm_f o78 o87 s89 (by decide)]; rw [sm_f o2 o78 s80 (by decide)]; rw [sm_f hwo o2 s4 (by decide)])
          exact k53 _ o110 (fx_sm_tr (fx_sm_tr (fx_sm_tr (fx_sm_tr fx_sm_refl s4 (by decide)) s80 (by decide)) s89 (by decide)) s112 (by decide)) (by rw [sm_f o87 o110 s112 (by decide)]; rw [sm_f o78 o87 s89 (by decide)]; rw [sm_f o2 o78 s80 (by decide)]; rw [sm_f hwo o2 s4 (by decide)]; omega) (fun h => by omega)
        · have c105 : (0 : Int) ≤ vi ws 0 9 := c105
          refine hr_aln C 0 dX12_numeral_36 rfl rfl rfl ?_
          refine hr_gI (lo := -2147483648) (hi := 2147483647) C hr0 TM0 rfl fl_X12_231 dX12_numeral_37 rfl (fun b118 b119 => ?_)
          have q120 : vi w86 0 9 = vi ws 0 9 := by rw [sm_f o78 o87 s89 (by decide)]; rw [sm_f o2 o78 s80 (by decide)]; rw [sm_f hwo o2 s4 (by decide)]
          rw [q120] at b118 b119 ⊢
          refine hr_iln C 2 dX12_numeral_40 rfl rfl rfl ?_
          refine hr_cmp C 53 dX12_numeral_41 (by decide) ⟨by omega, by omega⟩ ⟨by omega, by omega⟩ rfl (fun c121 => ?_) (fun c121 => ?_)
          · have c121 : (vi ws 0 9 : Int) ≤ 999 := c121
            refine hr_pick (lv' := [(0, .ref r), (1, zv (0)), (2, zv (999))]) [0, 1, 2] rfl ?_
            have : vi w86 0 4 = vi w77 0 4 := (by rw [sm_f o78 o87 s89 (by decide)])
            have : vi w77 0 4 = vi w77 0 4 := rfl
            have : vi w1 0 4 = vi ws 0 4 := (by rw [sm_f hwo o2 s4 (by decide)])
            have : vi w86 0 9 = vi ws 0 9 := (by rw [sm_f o78 o87 s89 (by decide)]; rw [sm_f o2 o78 s80 (by decide)]; rw [sm_f hwo o2 s4 (by decide)])
            exact k53 _ o87 (fx_sm_tr (fx_sm_tr (fx_sm_tr fx_sm_refl s4 (by decide)) s80 (by decide)) s89 (by decide)) (by rw [sm_f o78 o87 s89 (by decide)]; rw [sm_f o2 o78 s80 (by decide)]; rw [sm_f hwo o2 s4 (by decide)]; omega) (fun h => by omega)
          · have c121 : (999 : Int) < vi ws 0 9 := c121
            refine hr_aln C 0 dX12_numeral_44 rfl rfl rfl ?_
            refine hr_ic C dX12_numeral_45 rfl ?_
            refine hr_aln C 0 dX12_numeral_46 rfl rfl rfl ?_
            refine hr_gI (lo := 0) (hi := 1600) C hr0 TM0 rfl fl_X12_206 dX12_numeral_47 rfl (fun b122 b123 => ?_)
            have q124 : vi w86 0 6 = vi ws 0 6 := by rw [sm_f o78 o87 s89 (by decide)]; rw [sm_f o2 o78 s80 (by decide)]; rw [sm_f hwo o2 s4 (by decide)]
            rw [q124] at b122 b123 ⊢
            refine hr_cV (As := [zv (4), zv (vi ws 0 6)]) (rest := []) C (hM_fx (km294 h)) ⟨by decide, by decide⟩ iV_X12_fails g_X12_237 TM0 hr0 dX12_numeral_50 rfl rfl (Nat.le_of_ble_eq_true rfl) rfl ⟨(ty_cons (ok_r hr0 (by decide) (by decide)) (ty_cons (ok_z (by decide) (by decide) (by omega) (by omega)) (ty_cons (ok_z (by decide) (by decide) (by omega) (by omega)) ty_nil))), ⟨_, rfl⟩⟩ (fun w125 rv o126 q127 => ?_)
            obtain ⟨s128, po, hpo129, hrv130, hty131, rt, hfs132⟩ := q127
            replace s128 : fx_sm (gsM, TM, cy, fun _ => True) [(12, 4), (12, 5)] w86 w125 := s128
            simp only [km294_c, List.mem_cons, List.not_mem_nil, or_false] at hpo129
            subst hpo129
            obtain rfl := hrv130
            have hf133 := fs_t hnd o126 hr0 rfl hfs132
            refine hr_norm (st' := []) rfl ?_
            refine hr_pick (lv' := [(0, .ref r), (1, zv (0)), (2, zv (999))]) [0, 1, 2] rfl ?_
            have : vi w125 0 4 = vi w125 0 4 := rfl
            have : vi w86 0 4 = vi w77 0 4 := (by rw [sm_f o78 o87 s89 (by decide)])
            have : vi w77 0 4 = vi w77 0 4 := rfl
            have : vi w1 0 4 = vi ws 0 4 := (by rw [sm_f hwo o2 s4 (by decide)])
            have : vi w125 0 9 = vi ws 0 9 := (by rw [sm_f o87 o126 s128 (by decide)]; rw [sm_f o78 o87 s89 (by decide)]; rw [sm_f o2 o78 s80 (by decide)]; rw [sm_f hwo o2 s4 (by decide)])
            exact k53 _ o126 (fx_sm_tr (fx_sm_tr (fx_sm_tr (fx_sm_tr fx_sm_refl s4 (by decide)) s80 (by decide)) s89 (by decide)) s128 (by decide)) (by rw [sm_f o87 o126 s128 (by decide)]; rw [sm_f o78 o87 s89 (by decide)]; rw [sm_f o2 o78 s80 (by decide)]; rw [sm_f hwo o2 s4 (by decide)]; omega) (fun h => by omega)
      · obtain ⟨v134, rfl, hv135⟩ := hrv91
        obtain ⟨z136, rfl, b137, b138, b139⟩ := ok_iz hv135
        simp only [rg] at b139
        obtain rfl : z136 = 0 := by omega
        have hf140 := fs_t hnd o87 hr0 rfl hfs93
        refine hr_norm (st' := [zv (0)]) rfl ?_
        refine hr_if C 53 dX12_numeral_25 (by decide) ⟨by omega, by omega⟩ rfl (fun c141 => ?_) (fun c141 => absurd (show ¬ (0 : Int) = 0 from c141) (by omega))
        have c141 : (0 : Int) = 0 := c141
        refine hr_pick (lv' := [(0, .ref r), (1, zv (0)), (2, zv (999))]) [0, 1, 2] rfl ?_
        have : vi w86 0 4 = vi w77 0 4 := (by rw [sm_f o78 o87 s89 (by decide)])
        have : vi w77 0 4 = vi w77 0 4 := rfl
        have : vi w1 0 4 = vi ws 0 4 := (by rw [sm_f hwo o2 s4 (by decide)])
        have : vi w86 0 9 = vi ws 0 9 := (by rw [sm_f o78 o87 s89 (by decide)]; rw [sm_f o2 o78 s80 (by decide)]; rw [sm_f hwo o2 s4 (by decide)])
        exact k53 _ o87 (fx_sm_tr (fx_sm_tr (fx_sm_tr fx_sm_refl s4 (by decide)) s80 (by decide)) s89 (by decide)) (by rw [sm_f o78 o87 s89 (by decide)]; rw [sm_f o2 o78 s80 (by decide)]; rw [sm_f hwo o2 s4 (by decide)]; omega) (fun h => by omega)
  · obtain ⟨v142, rfl, hv143⟩ := hrv6
    obtain ⟨z144, rfl, b145, b146, b147⟩ := ok_iz hv143
    simp only [rg] at b147
    obtain rfl : z144 = 0 := by omega
    have hf148 := fs_t hnd o2 hr0 rfl hfs8
    refine hr_norm (st' := [zv (0)]) rfl ?_
    refine hr_if C 9 dX12_numeral_4 (by decide) ⟨by omega, by omega⟩ rfl (fun c149 => absurd (show ¬ (0 : Int) = 0 from c149) (by omega)) (fun c149 => ?_)
    have c149 : (0 : Int) = 0 := c149
    refine hr_iln C 1 dX12_numeral_7 rfl rfl rfl ?_
    exact hr_iret C hlocks hr dX12_numeral_8 ⟨(fx_sm_tr fx_sm_refl s4 (by decide)), (by rw [sm_f hwo o2 s4 (by decide)]; omega), _, rfl, by omega, by omega⟩
set_option maxRecDepth 100000 in
set_option maxHeartbeats 4000000 in
theorem h_known {l : Launch} {E : (Nat → Prop) → State → Prop} {ad : List Nat} {D : va_G} {cy : Nat → ClassId} (h : fx_env E D classes (tys cy) nestW) (r : Nat) (its : Int) (hr0 : ad[0]? = some r) (hi : -1 ≤ its ∧ its ≤ 8) : hM l yX12_known cX12_known 2 (some .int) ({ frames := 2, cells := 0, slots := 0, locals := 44 }) E ad D cy (fun av ws => av = [.ref r, zv its] ∧ vi ws 0 7 ≤ 1600) (fun _ ws rv ws1 => fx_sm (gsM, TM, cy, fun _ => True) [(12, 4), (12, 5), (12, 6), (12, 7), (12, 8), (12, 9), (12, 10)] ws ws1 ∧ vi ws1 0 7 ≤ 1600 ∧ ∃ z, rv = some (zv z) ∧ 0 ≤ z ∧ z ≤ 8 ∧ (1 ≤ vi ws1 0 4 ∨ z = its)) := by
  refine hM_of h (by decide) ?_
  intro av ws p e s m below meth c hwo hnd hpre hlocks hr C
  obtain ⟨rfl, hpre⟩ := hpre
  refine ⟨Nat.le_of_ble_eq_true rfl, ?_⟩
  refine hr_pick (lv' := [(0, .ref r), (1, zv its)]) [0, 1] rfl ?_
  have he := hpre
  have h7b := fl_b (fi := 7) (lo := 0) (hi := 1601) hwo hr0 rfl
  refine hr_aln C 0 dX12_known_0 rfl rfl rfl ?_
  refine hr_cV (As := []) (rest := []) C (hM_fx (km293 h)) ⟨by decide, by decide⟩ iV_X12_isGood g_X12_241 TM0 hr0 dX12_known_1 rfl rfl (Nat.le_of_ble_eq_true rfl) rfl ⟨(ty_cons (ok_r hr0 (by decide) (by decide)) ty_nil), ⟨_, rfl⟩⟩ (fun w1 rv o2 q3 => ?_)
  obtain ⟨s4, po, hpo5, hrv6, hty7, rt, hfs8⟩ := q3
  replace s4 : fx_sm (gsM, TM, cy, fun _ => True) [] ws w1 := s4
  simp only [km293_c, List.mem_cons, List.not_mem_nil, or_false] at hpo5
  rcases hpo5 with rfl | rfl
  · obtain ⟨v9, rfl, hv10⟩ := hrv6
    obtain ⟨z11, rfl, b12, b13, b14⟩ := ok_iz hv10
    simp only [rg] at b14
    obtain rfl : z11 = 1 := by omega
    have hf15 := fs_t hnd o2 hr0 rfl hfs8
    refine hr_norm (st' := [zv (1)]) rfl ?_
    refine hr_if C 9 dX12_known_4 (by decide) ⟨by omega, by omega⟩ rfl (fun c16 => ?_) (fun c16 => absurd (show (1 : Int) = 0 from c16) (by omega))
    have c16 : ¬ (1 : Int) = 0 := c16
    refine hr_aln C 0 dX12_known_9 rfl rfl rfl ?_
    refine hr_gI (lo := -2147483648) (hi := 2147483647) C hr0 TM0 rfl fl_X12_213 dX12_known_10 rfl (fun b17 b18 => ?_)
    have q19 : vi w1 0 8 = vi ws 0 8 := by rw [sm_f hwo o2 s4 (by decide)]
    rw [q19] at b17 b18 ⊢
    refine hr_ic C dX12_known_13 rfl ?_
    refine hr_cmp C 24 dX12_known_14 (by decide) ⟨by omega, by omega⟩ ⟨by omega, by omega⟩ rfl (fun c20 => ?_) (fun c20 => ?_)
    · have c20 : (vi ws 0 8 : Int) = 2 := c20
      refine hr_iln C 1 dX12_known_24 rfl rfl rfl ?_
      refine hr_if C 40 dX12_known_25 (by decide) ⟨by omega, by omega⟩ rfl (fun c21 => ?_) (fun c21 => ?_)
      · have c21 : (0 : Int) ≤ its := c21
        refine hr_aln C 0 dX12_known_40 rfl rfl rfl ?_
        have h7 : vi w1 0 7 = vi ws 0 7 := (by rw [sm_f hwo o2 s4 (by decide)])
        refine hr_cV (As := []) (rest := []) C (hM_fx (km292 h)) ⟨by decide, by decide⟩ iV_X12_goOn g_X12_245 TM0 hr0 dX12_known_41 rfl rfl (Nat.le_of_ble_eq_true rfl) rfl ⟨(ty_cons (ok_r hr0 (by decide) (by decide)) ty_nil), (fs_f o2 hr0 rfl ⟨_, _, rfl⟩ (by omega) (by omega))⟩ (fun w22 rv o23 q24 => ?_)
        obtain ⟨s25, po, hpo26, hrv27, hty28, rt, hfs29⟩ := q24
        replace s25 : fx_sm (gsM, TM, cy, fun _ => True) [(12, 6), (12, 7), (12, 8), (12, 9), (12, 10)] w1 w22 := s25
        simp only [km292_c, List.mem_cons, List.not_mem_nil, or_false] at hpo26
        subst hpo26
        obtain rfl := hrv27
        obtain ⟨⟨_, u30⟩, av31, g32, u33⟩ := fs_u (v0 := .ref r) rfl hfs29
        have hf34 := fs_t hnd o23 hr0 rfl u30
        have hf35 := fs_t hnd o23 hr0 g32 u33
        refine hr_norm (st' := []) rfl ?_
        refine hr_iln C 1 dX12_known_44 rfl rfl rfl ?_
        refine hr_if C 52 dX12_known_45 (by decide) ⟨by omega, by omega⟩ rfl (fun c36 => ?_) (fun c36 => ?_)
        · have c36 : (0 : Int) ≤ its := c36
          refine hr_iln C 1 dX12_known_52 rfl rfl rfl ?_
          have : vi w22 0 4 = vi ws 0 4 := (by rw [sm_f o2 o23 s25 (by decide)]; rw [sm_f hwo o2 s4 (by decide)])
          have : vi w1 0 4 = vi ws 0 4 := (by rw [sm_f hwo o2 s4 (by decide)])
          exact hr_iret C hlocks hr dX12_known_53 ⟨(fx_sm_tr (fx_sm_tr fx_sm_refl s4 (by decide)) s25 (by decide)), (by omega), _, rfl, by omega, by omega, by omega⟩
        · have c36 : (its : Int) < 0 := c36
          refine hr_ic C dX12_known_48 rfl ?_
          refine hr_goto C 53 dX12_known_49 (by decide) ?_
          have : vi w22 0 4 = vi ws 0 4 := (by rw [sm_f o2 o23 s25 (by decide)]; rw [sm_f hwo o2 s4 (by decide)])
          have : vi w1 0 4 = vi ws 0 4 := (by rw [sm_f hwo o2 s4 (by decide)])
          exact hr_iret C hlocks hr dX12_known_53 ⟨(fx_sm_tr (fx_sm_tr fx_sm_refl s4 (by decide)) s25 (by decide)), (by omega), _, rfl, by omega, by omega, by omega⟩
      · have c21 : (its : Int) < 0 := c21
        refine hr_aln C 0 dX12_known_28 rfl rfl rfl ?_
        refine hr_ic C dX12_known_29 rfl ?_
        refine hr_aln C 0 dX12_known_30 rfl rfl rfl ?_
        refine hr_gI (lo := 0) (hi := 1600) C hr0 TM0 rfl fl_X12_206 dX12_known_31 rfl (fun b37 b38 => ?_)
        have q39 : vi w1 0 6 = vi ws 0 6 := by rw [sm_f hwo o2 s4 (by decide)]
        rw [q39] at b37 b38 ⊢
        refine hr_cV (As := [zv (5), zv (vi ws 0 6)]) (rest := []) C (hM_fx (km294 h)) ⟨by decide, by decide⟩ iV_X12_fails g_X12_237 TM0 hr0 dX12_known_34 rfl rfl (Nat.le_of_ble_eq_true rfl) rfl ⟨(ty_cons (ok_r hr0 (by decide) (by decide)) (ty_cons (ok_z (by decide) (by decide) (by omega) (by omega)) (ty_cons (ok_z (by decide) (by decide) (by omega) (by omega)) ty_nil))), ⟨_, rfl⟩⟩ (fun w40 rv o41 q42 => ?_)
        obtain ⟨s43, po, hpo44, hrv45, hty46, rt, hfs47⟩ := q42
        replace s43 : fx_sm (gsM, TM, cy, fun _ => True) [(12, 4), (12, 5)] w1 w40 := s43
        simp only [km294_c, List.mem_cons, List.not_mem_nil, or_false] at hpo44
        subst hpo44
        obtain rfl := hrv45
        have hf48 := fs_t hnd o41 hr0 rfl hfs47
        refine hr_norm (st' := []) rfl ?_
        refine hr_goto C 44 dX12_known_37 (by decide) ?_
        refine hr_iln C 1 dX12_known_44 rfl rfl rfl ?_
        refine hr_if C 52 dX12_known_45 (by decide) ⟨by omega, by omega⟩ rfl (fun c49 => ?_) (fun c49 => ?_)
        · have c49 : (0 : Int) ≤ its := c49
          refine hr_iln C 1 dX12_known_52 rfl rfl rfl ?_
          have : vi w40 0 4 = vi w40 0 4 := rfl
          have : vi w1 0 4 = vi ws 0 4 := (by rw [sm_f hwo o2 s4 (by decide)])
          exact hr_iret C hlocks hr dX12_known_53 ⟨(fx_sm_tr (fx_sm_tr fx_sm_refl s4 (by decide)) s43 (by decide)), (by rw [sm_f o2 o41 s43 (by decide)]; rw [sm_f hwo o2 s4 (by decide)]; omega), _, rfl, by omega, by omega, by omega⟩
        · have c49 : (its : Int) < 0 := c49
          refine hr_ic C dX12_known_48 rfl ?_
          refine hr_goto C 53 dX12_known_49 (by decide) ?_
          have : vi w40 0 4 = vi w40 0 4 := rfl
          have : vi w1 0 4 = vi ws 0 4 := (by rw [sm_f hwo o2 s4 (by decide)])
          exact hr_iret C hlocks hr dX12_known_53 ⟨(fx_sm_tr (fx_sm_tr fx_sm_refl s4 (by decide)) s43 (by decide)), (by rw [sm_f o2 o41 s43 (by decide)]; rw [sm_f hwo o2 s4 (by decide)]; omega), _, rfl, by omega, by omega, by omega⟩
    · have c20 : ¬ (vi ws 0 8 : Int) = 2 := c20
      refine hr_aln C 0 dX12_known_17 rfl rfl rfl ?_
      refine hr_cV (As := []) (rest := []) C (hM_fx (km295 h)) ⟨by decide, by decide⟩ iV_X12_misplaced g_X12_248 TM0 hr0 dX12_known_18 rfl rfl (Nat.le_of_ble_eq_true rfl) rfl ⟨(ty_cons (ok_r hr0 (by decide) (by decide)) ty_nil), ⟨_, rfl⟩⟩ (fun w50 rv o51 q52 => ?_)
      obtain ⟨s53, po, hpo54, hrv55, hty56, rt, hfs57⟩ := q52
      replace s53 : fx_sm (gsM, TM, cy, fun _ => True) [(12, 4), (12, 5)] w1 w50 := s53
      simp only [km295_c, List.mem_cons, List.not_mem_nil, or_false] at hpo54
      subst hpo54
      obtain rfl := hrv55
      have hf58 := fs_t hnd o51 hr0 rfl hfs57
      refine hr_norm (st' := []) rfl ?_
      refine hr_goto C 44 dX12_known_21 (by decide) ?_
      refine hr_iln C 1 dX12_known_44 rfl rfl rfl ?_
      refine hr_if C 52 dX12_known_45 (by decide) ⟨by omega, by omega⟩ rfl (fun c59 => ?_) (fun c59 => ?_)
      · have c59 : (0 : Int) ≤ its := c59
        refine hr_iln C 1 dX12_known_52 rfl rfl rfl ?_
        have : vi w50 0 4 = vi w50 0 4 := rfl
        have : vi w1 0 4 = vi ws 0 4 := (by rw [sm_f hwo o2 s4 (by decide)])
        exact hr_iret C hlocks hr dX12_known_53 ⟨(fx_sm_tr (fx_sm_tr fx_sm_refl s4 (by decide)) s53 (by decide)), (by rw [sm_f o2 o51 s53 (by decide)]; rw [sm_f hwo o2 s4 (by decide)]; omega), _, rfl, by omega, by omega, by omega⟩
      · have c59 : (its : Int) < 0 := c59
        refine hr_ic C dX12_known_48 rfl ?_
        refine hr_goto C 53 dX12_known_49 (by decide) ?_
        have : vi w50 0 4 = vi w50 0 4 := rfl
        have : vi w1 0 4 = vi ws 0 4 := (by rw [sm_f hwo o2 s4 (by decide)])
        exact hr_iret C hlocks hr dX12_known_53 ⟨(fx_sm_tr (fx_sm_tr fx_sm_refl s4 (by decide)) s53 (by decide)), (by rw [sm_f o2 o51 s53 (by decide)]; rw [sm_f hwo o2 s4 (by decide)]; omega), _, rfl, by omega, by omega, by omega⟩
  · obtain ⟨v60, rfl, hv61⟩ := hrv6
    obtain ⟨z62, rfl, b63, b64, b65⟩ := ok_iz hv61
    simp only [rg] at b65
    obtain rfl : z62 = 0 := by omega
    have hf66 := fs_t hnd o2 hr0 rfl hfs8
    refine hr_norm (st' := [zv (0)]) rfl ?_
    refine hr_if C 9 dX12_known_4 (by decide) ⟨by omega, by omega⟩ rfl (fun c67 => absurd (show ¬ (0 : Int) = 0 from c67) (by omega)) (fun c67 => ?_)
    have c67 : (0 : Int) = 0 := c67
    refine hr_ic C dX12_known_7 rfl ?_
    have : vi w1 0 4 = vi ws 0 4 := (by rw [sm_f hwo o2 s4 (by decide)])
    exact hr_iret C hlocks hr dX12_known_8 ⟨(fx_sm_tr fx_sm_refl s4 (by decide)), (by rw [sm_f hwo o2 s4 (by decide)]; omega), _, rfl, by omega, by omega, by omega⟩
set_option maxRecDepth 100000 in
set_option maxHeartbeats 4000000 in
theorem h_wordNamed {l : Launch} {E : (Nat → Prop) → State → Prop} {ad : List Nat} {D : va_G} {cy : Nat → ClassId} (h : fx_env E D classes (tys cy) nestW) (r : Nat) (hr0 : ad[0]? = some r) : hM l yX12_wordNamed cX12_wordNamed 2 (some .int) ({ frames := 0, cells := 0, slots := 0, locals := 0 }) E ad D cy (fun av ws => av = [.ref r] ∧ True) (fun _ ws rv ws1 => ws = ws1 ∧ ∃ z, rv = some (zv z) ∧ -1 ≤ z ∧ z < vi ws 3 (Int.toNat (vi ws 0 35)) ∧ z ≤ 8) := by
  refine hM_of h (by decide) ?_
  intro av ws p e s m below meth c hwo hnd hpre hlocks hr C
  obtain ⟨rfl, hpre⟩ := hpre
  refine ⟨Nat.le_of_ble_eq_true rfl, ?_⟩
  refine hr_pick (lv' := [(0, .ref r)]) [0] rfl ?_
  have hB := fl_b (fi := 35) (lo := 0) (hi := 1) hwo hr0 rfl
  have hW := el_b (fi := 11) (g := 3) (n := 2) (lo := 0) (hi := 9) (j := Int.toNat (vi ws 0 35)) hwo hr0 rfl (by decide) TMa_3 (by omega)
  have loop : ∀ (q : Nat) (k : Int), (9 - k).toNat < q → 0 ≤ k → k ≤ 9 → HW l E ad D cy (va_A ws s.heap.size) s.heap p e ({ frames := 0, cells := 0, slots := 0, locals := 0 }) s m ([.ref r]).toArray below meth c (MQ below (hQ ad D cy (fun _ ws rv ws1 => ws = ws1 ∧ ∃ z, rv = some (zv z) ∧ -1 ≤ z ∧ z < vi ws 3 (Int.toNat (vi ws 0 35)) ∧ z ≤ 8) ([.ref r]) ws s.heap.size) ([.ref r]).toArray s 0 0 (va_A ws s.heap.size)) cX12_wordNamed 2 yX12_wordNamed.cls 2 [(0, .ref r), (1, zv k)] [] ws := by
    intro q
    induction q with
    | zero => intro k hq; omega
    | succ q ih =>
      intro k hq h0 h1
      refine hr_iln C 1 dX12_wordNamed_2 rfl rfl rfl ?_
      refine hr_aln C 0 dX12_wordNamed_3 rfl rfl rfl ?_
      refine hr_gA (g := 3) C hr0 TM0 rfl (by decide) fl_X12_20 dX12_wordNamed_4 rfl (fun a1 ha2 => ?_)
      refine hr_aln C 0 dX12_wordNamed_7 rfl rfl rfl ?_
      refine hr_gI (lo := 0) (hi := 1) C hr0 TM0 rfl fl_X12_265 dX12_wordNamed_8 rfl (fun b3 b4 => ?_)
      refine hr_ald C ha2 TMa_3 (by omega) (by omega) (by decide) dX12_wordNamed_11 rfl (fun b5 b6 => ?_)
      have b5 := gp1 b5
      simp only [rg] at b6
      refine hr_cmp C 53 dX12_wordNamed_12 (by decide) ⟨by omega, by omega⟩ ⟨by omega, by omega⟩ rfl (fun c7 => ?_) (fun c7 => ?_)
      · have c7 : (vi ws 3 (Int.toNat (vi ws 0 35)) : Int) ≤ k := c7
        refine hr_ic C dX12_wordNamed_53 rfl ?_
        exact hr_iret C hlocks hr dX12_wordNamed_54 ⟨rfl, _, rfl, by omega, by omega, by omega⟩
      · have c7 : (k : Int) < vi ws 3 (Int.toNat (vi ws 0 35)) := c7
        refine hr_aln C 0 dX12_wordNamed_15 rfl rfl rfl ?_
        refine hr_gI (lo := -2147483648) (hi := 2147483647) C hr0 TM0 rfl fl_X12_213 dX12_wordNamed_16 rfl (fun b8 b9 => ?_)
        refine hr_ic C dX12_wordNamed_19 rfl ?_
        refine hr_cmp C 47 dX12_wordNamed_20 (by decide) ⟨by omega, by omega⟩ ⟨by omega, by omega⟩ rfl (fun c10 => ?_) (fun c10 => ?_)
        · have c10 : ¬ (vi ws 0 8 : Int) = 2 := c10
          refine hr_inc (lv' := [(1, zv (k + 1)), (0, .ref r)]) C 1 dX12_wordNamed_47 rfl (by decide) rfl rfl ?_
          refine hr_goto C 2 dX12_wordNamed_50 (by decide) ?_
          refine hr_pick (lv' := [(0, .ref r), (1, zv (k + 1))]) [1, 0] rfl ?_
          exact ih _ (by omega) (by omega) (by omega)
        · have c10 : (vi ws 0 8 : Int) = 2 := c10
          refine hr_aln C 0 dX12_wordNamed_23 rfl rfl rfl ?_
          refine hr_gA (g := 20) C hr0 TM0 rfl (by decide) fl_X12_73 dX12_wordNamed_24 rfl (fun a11 ha12 => ?_)
          refine hr_bi C dX12_wordNamed_27 (by decide +kernel) rfl ?_
          refine hr_aln C 0 dX12_wordNamed_29 rfl rfl rfl ?_
          refine hr_gI (lo := 0) (hi := 1) C hr0 TM0 rfl fl_X12_265 dX12_wordNamed_30 rfl (fun b13 b14 => ?_)
          refine hr_mul C dX12_wordNamed_33 rfl ?_
          refine hr_iln C 1 dX12_wordNamed_34 rfl rfl rfl ?_
          refine hr_add C dX12_wordNamed_35 rfl ?_
          refine hr_lld C ha12 TMa_20 (by omega) (by omega) (by decide) dX12_wordNamed_36 rfl (fun x15 => ?_)
          refine hr_aln C 0 dX12_wordNamed_37 rfl rfl rfl ?_
          refine hr_gN C hr0 TM0 rfl fl_X12_220 dX12_wordNamed_38 rfl (fun x16 hx17 => ?_)
          refine hr_lcq C dX12_wordNamed_41 rfl (fun z18 h19 h20 => ?_)
          refine hr_if C 47 dX12_wordNamed_42 (by decide) ⟨by omega, by omega⟩ rfl (fun c21 => ?_) (fun c21 => ?_)
          · have c21 : ¬ (z18 : Int) = 0 := c21
            refine hr_inc (lv' := [(1, zv (k + 1)), (0, .ref r)]) C 1 dX12_wordNamed_47 rfl (by decide) rfl rfl ?_
            refine hr_goto C 2 dX12_wordNamed_50 (by decide) ?_
            refine hr_pick (lv' := [(0, .ref r), (1, zv (k + 1))]) [1, 0] rfl ?_
            exact ih _ (by omega) (by omega) (by omega)
          · have c21 : (z18 : Int) = 0 := c21
            refine hr_iln C 1 dX12_wordNamed_45 rfl rfl rfl ?_
            exact hr_iret C hlocks hr dX12_wordNamed_46 ⟨rfl, _, rfl, by omega, by omega, by omega⟩
  refine hr_ic C dX12_wordNamed_0 rfl ?_
  refine hr_isn (lv' := [(1, zv (0)), (0, .ref r)]) C dX12_wordNamed_1 rfl (by decide) rfl rfl ?_
  refine hr_pick (lv' := [(0, .ref r), (1, zv (0))]) [1, 0] rfl ?_
  exact loop _ _ (Nat.lt_succ_self _) (by omega) (by omega)
set_option maxRecDepth 100000 in
set_option maxHeartbeats 4000000 in
theorem h_must {l : Launch} {E : (Nat → Prop) → State → Prop} {ad : List Nat} {D : va_G} {cy : Nat → ClassId} (h : fx_env E D classes (tys cy) nestW) (r : Nat) (b : Int) (hr0 : ad[0]? = some r) (hb : b = 0 ∨ b = 1) : hM l yX12_must cX12_must 2 none ({ frames := 2, cells := 0, slots := 0, locals := 44 }) E ad D cy (fun av ws => av = [.ref r, zv b] ∧ vi ws 0 7 ≤ 1600) (fun _ ws rv ws1 => fx_sm (gsM, TM, cy, fun _ => True) [(12, 4), (12, 5), (12, 6), (12, 7), (12, 8), (12, 9), (12, 10)] ws ws1 ∧ rv = none ∧ vi ws1 0 7 ≤ 1600 ∧ (1 ≤ vi ws 0 4 → 1 ≤ vi ws1 0 4)) := by
  refine hM_of h (by decide) ?_
  intro av ws p e s m below meth c hwo hnd hpre hlocks hr C
  obtain ⟨rfl, hpre⟩ := hpre
  refine ⟨Nat.le_of_ble_eq_true rfl, ?_⟩
  refine hr_pick (lv' := [(0, .ref r), (1, zv b)]) [0, 1] rfl ?_
  have he := hpre
  have h7b := fl_b (fi := 7) (lo := 0) (hi := 1601) hwo hr0 rfl
  refine hr_aln C 0 dX12_must_0 rfl rfl rfl ?_
  refine hr_cV (As := []) (rest := []) C (hM_fx (km293 h)) ⟨by decide, by decide⟩ iV_X12_isGood g_X12_241 TM0 hr0 dX12_must_1 rfl rfl (Nat.le_of_ble_eq_true rfl) rfl ⟨(ty_cons (ok_r hr0 (by decide) (by decide)) ty_nil), ⟨_, rfl⟩⟩ (fun w1 rv o2 q3 => ?_)
  obtain ⟨s4, po, hpo5, hrv6, hty7, rt, hfs8⟩ := q3
  replace s4 : fx_sm (gsM, TM, cy, fun _ => True) [] ws w1 := s4
  simp only [km293_c, List.mem_cons, List.not_mem_nil, or_false] at hpo5
  rcases hpo5 with rfl | rfl
  · obtain ⟨v9, rfl, hv10⟩ := hrv6
    obtain ⟨z11, rfl, b12, b13, b14⟩ := ok_iz hv10
    simp only [rg] at b14
    obtain rfl : z11 = 1 := by omega
    have hf15 := fs_t hnd o2 hr0 rfl hfs8
    refine hr_norm (st' := [zv (1)]) rfl ?_
    refine hr_if C 8 dX12_must_4 (by decide) ⟨by omega, by omega⟩ rfl (fun c16 => ?_) (fun c16 => absurd (show (1 : Int) = 0 from c16) (by omega))
    have c16 : ¬ (1 : Int) = 0 := c16
    refine hr_iln C 1 dX12_must_8 rfl rfl rfl ?_
    refine hr_if C 19 dX12_must_9 (by decide) ⟨by omega, by omega⟩ rfl (fun c17 => ?_) (fun c17 => ?_)
    · have c17 : (b : Int) = 0 := c17
      refine hr_aln C 0 dX12_must_19 rfl rfl rfl ?_
      refine hr_cV (As := []) (rest := []) C (hM_fx (km295 h)) ⟨by decide, by decide⟩ iV_X12_misplaced g_X12_248 TM0 hr0 dX12_must_20 rfl rfl (Nat.le_of_ble_eq_true rfl) rfl ⟨(ty_cons (ok_r hr0 (by decide) (by decide)) ty_nil), ⟨_, rfl⟩⟩ (fun w18 rv o19 q20 => ?_)
      obtain ⟨s21, po, hpo22, hrv23, hty24, rt, hfs25⟩ := q20
      replace s21 : fx_sm (gsM, TM, cy, fun _ => True) [(12, 4), (12, 5)] w1 w18 := s21
      simp only [km295_c, List.mem_cons, List.not_mem_nil, or_false] at hpo22
      subst hpo22
      obtain rfl := hrv23
      have hf26 := fs_t hnd o19 hr0 rfl hfs25
      refine hr_norm (st' := []) rfl ?_
      have : vi w18 0 4 = vi w18 0 4 := rfl
      have : vi w1 0 4 = vi ws 0 4 := (by rw [sm_f hwo o2 s4 (by decide)])
      exact hr_vret C hlocks hr dX12_must_23 ⟨(fx_sm_tr (fx_sm_tr fx_sm_refl s4 (by decide)) s21 (by decide)), rfl, (by rw [sm_f o2 o19 s21 (by decide)]; rw [sm_f hwo o2 s4 (by decide)]; omega), fun h4 => by omega⟩
    · have c17 : ¬ (b : Int) = 0 := c17
      refine hr_aln C 0 dX12_must_12 rfl rfl rfl ?_
      have h7 : vi w1 0 7 = vi ws 0 7 := (by rw [sm_f hwo o2 s4 (by decide)])
      refine hr_cV (As := []) (rest := []) C (hM_fx (km292 h)) ⟨by decide, by decide⟩ iV_X12_goOn g_X12_245 TM0 hr0 dX12_must_13 rfl rfl (Nat.le_of_ble_eq_true rfl) rfl ⟨(ty_cons (ok_r hr0 (by decide) (by decide)) ty_nil), (fs_f o2 hr0 rfl ⟨_, _, rfl⟩ (by omega) (by omega))⟩ (fun w27 rv o28 q29 => ?_)
      obtain ⟨s30, po, hpo31, hrv32, hty33, rt, hfs34⟩ := q29
      replace s30 : fx_sm (gsM, TM, cy, fun _ => True) [(12, 6), (12, 7), (12, 8), (12, 9), (12, 10)] w1 w27 := s30
      simp only [km292_c, List.mem_cons, List.not_mem_nil, or_false] at hpo31
      subst hpo31
      obtain rfl := hrv32
      obtain ⟨⟨_, u35⟩, av36, g37, u38⟩ := fs_u (v0 := .ref r) rfl hfs34
      have hf39 := fs_t hnd o28 hr0 rfl u35
      have hf40 := fs_t hnd o28 hr0 g37 u38
      refine hr_norm (st' := []) rfl ?_
      refine hr_goto C 23 dX12_must_16 (by decide) ?_
      have : vi w27 0 4 = vi ws 0 4 := (by rw [sm_f o2 o28 s30 (by decide)]; rw [sm_f hwo o2 s4 (by decide)])
      have : vi w1 0 4 = vi ws 0 4 := (by rw [sm_f hwo o2 s4 (by decide)])
      exact hr_vret C hlocks hr dX12_must_23 ⟨(fx_sm_tr (fx_sm_tr fx_sm_refl s4 (by decide)) s30 (by decide)), rfl, (by omega), fun h4 => by omega⟩
  · obtain ⟨v41, rfl, hv42⟩ := hrv6
    obtain ⟨z43, rfl, b44, b45, b46⟩ := ok_iz hv42
    simp only [rg] at b46
    obtain rfl : z43 = 0 := by omega
    have hf47 := fs_t hnd o2 hr0 rfl hfs8
    refine hr_norm (st' := [zv (0)]) rfl ?_
    refine hr_if C 8 dX12_must_4 (by decide) ⟨by omega, by omega⟩ rfl (fun c48 => absurd (show ¬ (0 : Int) = 0 from c48) (by omega)) (fun c48 => ?_)
    have c48 : (0 : Int) = 0 := c48
    have : vi w1 0 4 = vi ws 0 4 := (by rw [sm_f hwo o2 s4 (by decide)])
    exact hr_vret C hlocks hr dX12_must_7 ⟨(fx_sm_tr fx_sm_refl s4 (by decide)), rfl, (by rw [sm_f hwo o2 s4 (by decide)]; omega), fun h4 => by omega⟩
