theorem m_683 : Cond.methodLink RX12 301 yX12_after ∈ wsL_law := in_wsL_law_r29 _ (List.mem_of_getElem? (i := 11) rfl)
theorem m_684 : Cond.instanceMethod yX12_after ∈ wsL_law := in_wsL_law_r29 _ (List.mem_of_getElem? (i := 12) rfl)
theorem m_685 : Cond.selects RX12 yX12_after yX12_after ∈ wsL_law := in_wsL_law_r29 _ (List.mem_of_getElem? (i := 13) rfl)
theorem m_686 : Cond.code yX12_after cX12_after 5 (some .int) ∈ wsL_law := in_wsL_law_r29 _ (List.mem_of_getElem? (i := 14) rfl)
theorem iV_X12_after : yX12_after.cls = RX12 ∧ yX12_after.cls ≠ "java/lang/invoke/MethodHandle" ∧ yX12_after.cls ≠ "java/lang/invoke/VarHandle" ∧ (parseMethodDescriptor yX12_after.desc).map (fun d => d.parameters.length) = some 3 := by decide +kernel
theorem g_X12_301 : GoodIn wsL_law (wsV RX12 301 RX12 yX12_after (.code yX12_after cX12_after 5 (some .int) :: wsL_law)) := gdV m_683 m_684 m_685 m_5 m_686
theorem dX12_readSaying_96 : decode cX12_readSaying 96 = .ok (.iload_n 2, 1) := by decide +kernel
theorem dX12_readSaying_97 : decode cX12_readSaying 97 = .ok (.bipush 9, 2) := by decide +kernel
theorem dX12_readSaying_99 : decode cX12_readSaying 99 = .ok (.if_icmp .ge 21, 3) := by decide +kernel
theorem dX12_readSaying_120 : decode cX12_readSaying 120 = .ok (.aload_n 0, 1) := by decide +kernel
theorem dX12_readSaying_121 : decode cX12_readSaying 121 = .ok (.getfield 20, 3) := by decide +kernel
theorem dX12_readSaying_124 : decode cX12_readSaying 124 = .ok (.aload_n 0, 1) := by decide +kernel
theorem dX12_readSaying_125 : decode cX12_readSaying 125 = .ok (.getfield 265, 3) := by decide +kernel
theorem dX12_readSaying_128 : decode cX12_readSaying 128 = .ok (.dup2, 1) := by decide +kernel
theorem dX12_readSaying_129 : decode cX12_readSaying 129 = .ok (.iaload, 1) := by decide +kernel
theorem dX12_readSaying_130 : decode cX12_readSaying 130 = .ok (.iconst 1, 1) := by decide +kernel
theorem dX12_readSaying_131 : decode cX12_readSaying 131 = .ok (.iadd, 1) := by decide +kernel
theorem dX12_readSaying_132 : decode cX12_readSaying 132 = .ok (.iastore, 1) := by decide +kernel
theorem dX12_readSaying_133 : decode cX12_readSaying 133 = .ok (.return_, 1) := by decide +kernel
theorem dX12_readSaying_102 : decode cX12_readSaying 102 = .ok (.aload_n 0, 1) := by decide +kernel
theorem dX12_readSaying_103 : decode cX12_readSaying 103 = .ok (.getfield 42, 3) := by decide +kernel
theorem dX12_readSaying_106 : decode cX12_readSaying 106 = .ok (.bipush 9, 2) := by decide +kernel
theorem dX12_readSaying_108 : decode cX12_readSaying 108 = .ok (.iload_n 1, 1) := by decide +kernel
theorem dX12_readSaying_109 : decode cX12_readSaying 109 = .ok (.imul, 1) := by decide +kernel
theorem dX12_readSaying_110 : decode cX12_readSaying 110 = .ok (.iload_n 2, 1) := by decide +kernel
theorem dX12_readSaying_111 : decode cX12_readSaying 111 = .ok (.iadd, 1) := by decide +kernel
theorem dX12_readSaying_112 : decode cX12_readSaying 112 = .ok (.iconst 0, 1) := by decide +kernel
theorem dX12_readSaying_113 : decode cX12_readSaying 113 = .ok (.iastore, 1) := by decide +kernel
theorem dX12_readSaying_114 : decode cX12_readSaying 114 = .ok (.iinc 2 1, 3) := by decide +kernel
theorem dX12_readSaying_117 : decode cX12_readSaying 117 = .ok (.goto (-21), 3) := by decide +kernel
theorem dX12_readSaying_49 : decode cX12_readSaying 49 = .ok (.aload_n 0, 1) := by decide +kernel
theorem dX12_readSaying_50 : decode cX12_readSaying 50 = .ok (.invokevirtual 241, 3) := by decide +kernel
theorem dX12_readSaying_53 : decode cX12_readSaying 53 = .ok (.ifCond .ne 4, 3) := by decide +kernel
theorem dX12_readSaying_57 : decode cX12_readSaying 57 = .ok (.aload_n 0, 1) := by decide +kernel
theorem dX12_readSaying_58 : decode cX12_readSaying 58 = .ok (.getfield 73, 3) := by decide +kernel
theorem dX12_readSaying_61 : decode cX12_readSaying 61 = .ok (.iload_n 1, 1) := by decide +kernel
theorem dX12_readSaying_62 : decode cX12_readSaying 62 = .ok (.aload_n 0, 1) := by decide +kernel
theorem dX12_readSaying_63 : decode cX12_readSaying 63 = .ok (.getfield 220, 3) := by decide +kernel
theorem dX12_readSaying_66 : decode cX12_readSaying 66 = .ok (.lastore, 1) := by decide +kernel
theorem dX12_readSaying_67 : decode cX12_readSaying 67 = .ok (.aload_n 0, 1) := by decide +kernel
theorem dX12_readSaying_68 : decode cX12_readSaying 68 = .ok (.invokevirtual 245, 3) := by decide +kernel
theorem dX12_readSaying_71 : decode cX12_readSaying 71 = .ok (.aload_n 0, 1) := by decide +kernel
theorem dX12_readSaying_72 : decode cX12_readSaying 72 = .ok (.getfield 39, 3) := by decide +kernel
theorem dX12_readSaying_75 : decode cX12_readSaying 75 = .ok (.iload_n 1, 1) := by decide +kernel
theorem dX12_readSaying_76 : decode cX12_readSaying 76 = .ok (.aload_n 0, 1) := by decide +kernel
theorem dX12_readSaying_77 : decode cX12_readSaying 77 = .ok (.ldc2_w 175, 3) := by decide +kernel
theorem dX12_readSaying_80 : decode cX12_readSaying 80 = .ok (.iconst 0, 1) := by decide +kernel
theorem dX12_readSaying_81 : decode cX12_readSaying 81 = .ok (.bipush 20, 2) := by decide +kernel
theorem dX12_readSaying_83 : decode cX12_readSaying 83 = .ok (.invokevirtual 301, 3) := by decide +kernel
theorem dX12_readSaying_86 : decode cX12_readSaying 86 = .ok (.iastore, 1) := by decide +kernel
theorem dX12_readSaying_87 : decode cX12_readSaying 87 = .ok (.aload_n 0, 1) := by decide +kernel
theorem dX12_readSaying_88 : decode cX12_readSaying 88 = .ok (.getfield 45, 3) := by decide +kernel
theorem dX12_readSaying_91 : decode cX12_readSaying 91 = .ok (.iload_n 1, 1) := by decide +kernel
theorem dX12_readSaying_92 : decode cX12_readSaying 92 = .ok (.iconst 0, 1) := by decide +kernel
theorem dX12_readSaying_93 : decode cX12_readSaying 93 = .ok (.iastore, 1) := by decide +kernel
theorem dX12_readSaying_94 : decode cX12_readSaying 94 = .ok (.iconst 0, 1) := by decide +kernel
theorem dX12_readSaying_95 : decode cX12_readSaying 95 = .ok (.istore_n 2, 1) := by decide +kernel
theorem dX12_readSaying_56 : decode cX12_readSaying 56 = .ok (.return_, 1) := by decide +kernel
theorem dX12_readSaying_0 : decode cX12_readSaying 0 = .ok (.bipush 9, 2) := by decide +kernel
theorem dX12_readSaying_2 : decode cX12_readSaying 2 = .ok (.aload_n 0, 1) := by decide +kernel
theorem dX12_readSaying_3 : decode cX12_readSaying 3 = .ok (.getfield 265, 3) := by decide +kernel
theorem dX12_readSaying_6 : decode cX12_readSaying 6 = .ok (.imul, 1) := by decide +kernel
theorem dX12_readSaying_7 : decode cX12_readSaying 7 = .ok (.aload_n 0, 1) := by decide +kernel
theorem dX12_readSaying_8 : decode cX12_readSaying 8 = .ok (.getfield 20, 3) := by decide +kernel
theorem dX12_readSaying_11 : decode cX12_readSaying 11 = .ok (.aload_n 0, 1) := by decide +kernel
theorem dX12_readSaying_12 : decode cX12_readSaying 12 = .ok (.getfield 265, 3) := by decide +kernel
theorem dX12_readSaying_15 : decode cX12_readSaying 15 = .ok (.iaload, 1) := by decide +kernel
theorem dX12_readSaying_16 : decode cX12_readSaying 16 = .ok (.iadd, 1) := by decide +kernel
theorem dX12_readSaying_17 : decode cX12_readSaying 17 = .ok (.istore_n 1, 1) := by decide +kernel
theorem dX12_readSaying_18 : decode cX12_readSaying 18 = .ok (.aload_n 0, 1) := by decide +kernel
theorem dX12_readSaying_19 : decode cX12_readSaying 19 = .ok (.getfield 213, 3) := by decide +kernel
theorem dX12_readSaying_22 : decode cX12_readSaying 22 = .ok (.iconst 2, 1) := by decide +kernel
theorem dX12_readSaying_23 : decode cX12_readSaying 23 = .ok (.if_icmp .eq 10, 3) := by decide +kernel
theorem dX12_readSaying_33 : decode cX12_readSaying 33 = .ok (.aload_n 0, 1) := by decide +kernel
theorem dX12_readSaying_34 : decode cX12_readSaying 34 = .ok (.invokevirtual 297, 3) := by decide +kernel
theorem dX12_readSaying_37 : decode cX12_readSaying 37 = .ok (.ifCond .lt 12, 3) := by decide +kernel
theorem dX12_readSaying_40 : decode cX12_readSaying 40 = .ok (.aload_n 0, 1) := by decide +kernel
theorem dX12_readSaying_41 : decode cX12_readSaying 41 = .ok (.iconst 3, 1) := by decide +kernel
theorem dX12_readSaying_42 : decode cX12_readSaying 42 = .ok (.aload_n 0, 1) := by decide +kernel
theorem dX12_readSaying_43 : decode cX12_readSaying 43 = .ok (.getfield 206, 3) := by decide +kernel
theorem dX12_readSaying_46 : decode cX12_readSaying 46 = .ok (.invokevirtual 237, 3) := by decide +kernel
theorem dX12_readSaying_26 : decode cX12_readSaying 26 = .ok (.aload_n 0, 1) := by decide +kernel
theorem dX12_readSaying_27 : decode cX12_readSaying 27 = .ok (.invokevirtual 248, 3) := by decide +kernel
theorem dX12_readSaying_30 : decode cX12_readSaying 30 = .ok (.goto 19, 3) := by decide +kernel
theorem dX12_readBeside_57 : decode cX12_readBeside 57 = .ok (.aload_n 0, 1) := by decide +kernel
theorem dX12_readBeside_58 : decode cX12_readBeside 58 = .ok (.iload_n 2, 1) := by decide +kernel
theorem dX12_readBeside_59 : decode cX12_readBeside 59 = .ok (.invokevirtual 305, 3) := by decide +kernel
theorem dX12_readBeside_62 : decode cX12_readBeside 62 = .ok (.istore_n 2, 1) := by decide +kernel
theorem dX12_readBeside_63 : decode cX12_readBeside 63 = .ok (.aload_n 0, 1) := by decide +kernel
theorem dX12_readBeside_64 : decode cX12_readBeside 64 = .ok (.invokevirtual 308, 3) := by decide +kernel
theorem dX12_readBeside_67 : decode cX12_readBeside 67 = .ok (.istore_n 3, 1) := by decide +kernel
theorem dX12_readBeside_68 : decode cX12_readBeside 68 = .ok (.aload_n 0, 1) := by decide +kernel
theorem dX12_readBeside_69 : decode cX12_readBeside 69 = .ok (.invokevirtual 241, 3) := by decide +kernel
theorem dX12_readBeside_72 : decode cX12_readBeside 72 = .ok (.ifCond .ne 4, 3) := by decide +kernel
theorem dX12_readBeside_76 : decode cX12_readBeside 76 = .ok (.aload_n 0, 1) := by decide +kernel
theorem dX12_readBeside_77 : decode cX12_readBeside 77 = .ok (.getfield 45, 3) := by decide +kernel
theorem dX12_readBeside_80 : decode cX12_readBeside 80 = .ok (.iload_n 1, 1) := by decide +kernel
theorem dX12_readBeside_81 : decode cX12_readBeside 81 = .ok (.dup2, 1) := by decide +kernel
theorem dX12_readBeside_82 : decode cX12_readBeside 82 = .ok (.iaload, 1) := by decide +kernel
theorem dX12_readBeside_83 : decode cX12_readBeside 83 = .ok (.iconst 1, 1) := by decide +kernel
theorem dX12_readBeside_84 : decode cX12_readBeside 84 = .ok (.iload_n 2, 1) := by decide +kernel
theorem dX12_readBeside_85 : decode cX12_readBeside 85 = .ok (.ishl, 1) := by decide +kernel
theorem dX12_readBeside_86 : decode cX12_readBeside 86 = .ok (.ior, 1) := by decide +kernel
theorem dX12_readBeside_87 : decode cX12_readBeside 87 = .ok (.iastore, 1) := by decide +kernel
theorem dX12_readBeside_88 : decode cX12_readBeside 88 = .ok (.aload_n 0, 1) := by decide +kernel
theorem dX12_readBeside_89 : decode cX12_readBeside 89 = .ok (.getfield 42, 3) := by decide +kernel
theorem dX12_readBeside_92 : decode cX12_readBeside 92 = .ok (.bipush 9, 2) := by decide +kernel
theorem dX12_readBeside_94 : decode cX12_readBeside 94 = .ok (.iload_n 1, 1) := by decide +kernel
theorem dX12_readBeside_95 : decode cX12_readBeside 95 = .ok (.imul, 1) := by decide +kernel
theorem dX12_readBeside_96 : decode cX12_readBeside 96 = .ok (.iload_n 2, 1) := by decide +kernel
theorem dX12_readBeside_97 : decode cX12_readBeside 97 = .ok (.iadd, 1) := by decide +kernel
theorem dX12_readBeside_98 : decode cX12_readBeside 98 = .ok (.iload_n 3, 1) := by decide +kernel
theorem dX12_readBeside_99 : decode cX12_readBeside 99 = .ok (.iastore, 1) := by decide +kernel
theorem dX12_readBeside_100 : decode cX12_readBeside 100 = .ok (.aload_n 0, 1) := by decide +kernel
theorem dX12_readBeside_101 : decode cX12_readBeside 101 = .ok (.getfield 24, 3) := by decide +kernel
theorem dX12_readBeside_104 : decode cX12_readBeside 104 = .ok (.aload_n 0, 1) := by decide +kernel
theorem dX12_readBeside_105 : decode cX12_readBeside 105 = .ok (.getfield 265, 3) := by decide +kernel
theorem dX12_readBeside_108 : decode cX12_readBeside 108 = .ok (.dup2, 1) := by decide +kernel
theorem dX12_readBeside_109 : decode cX12_readBeside 109 = .ok (.iaload, 1) := by decide +kernel
theorem dX12_readBeside_110 : decode cX12_readBeside 110 = .ok (.iconst 1, 1) := by decide +kernel
theorem dX12_readBeside_111 : decode cX12_readBeside 111 = .ok (.iadd, 1) := by decide +kernel
theorem dX12_readBeside_112 : decode cX12_readBeside 112 = .ok (.iastore, 1) := by decide +kernel
theorem dX12_readBeside_113 : decode cX12_readBeside 113 = .ok (.return_, 1) := by decide +kernel
theorem dX12_readBeside_75 : decode cX12_readBeside 75 = .ok (.return_, 1) := by decide +kernel
theorem dX12_readBeside_0 : decode cX12_readBeside 0 = .ok (.bipush 9, 2) := by decide +kernel
theorem dX12_readBeside_2 : decode cX12_readBeside 2 = .ok (.aload_n 0, 1) := by decide +kernel
theorem dX12_readBeside_3 : decode cX12_readBeside 3 = .ok (.getfield 265, 3) := by decide +kernel
theorem dX12_readBeside_6 : decode cX12_readBeside 6 = .ok (.imul, 1) := by decide +kernel
theorem dX12_readBeside_7 : decode cX12_readBeside 7 = .ok (.aload_n 0, 1) := by decide +kernel
theorem dX12_readBeside_8 : decode cX12_readBeside 8 = .ok (.aload_n 0, 1) := by decide +kernel
theorem dX12_readBeside_9 : decode cX12_readBeside 9 = .ok (.invokevirtual 297, 3) := by decide +kernel
theorem dX12_readBeside_12 : decode cX12_readBeside 12 = .ok (.invokevirtual 305, 3) := by decide +kernel
theorem dX12_readBeside_15 : decode cX12_readBeside 15 = .ok (.iadd, 1) := by decide +kernel
theorem dX12_readBeside_16 : decode cX12_readBeside 16 = .ok (.istore_n 1, 1) := by decide +kernel
theorem dX12_readBeside_17 : decode cX12_readBeside 17 = .ok (.aload_n 0, 1) := by decide +kernel
theorem dX12_readBeside_18 : decode cX12_readBeside 18 = .ok (.invokevirtual 241, 3) := by decide +kernel
theorem dX12_readBeside_21 : decode cX12_readBeside 21 = .ok (.ifCond .ne 4, 3) := by decide +kernel
theorem dX12_readBeside_25 : decode cX12_readBeside 25 = .ok (.aload_n 0, 1) := by decide +kernel
theorem dX12_readBeside_26 : decode cX12_readBeside 26 = .ok (.invokevirtual 297, 3) := by decide +kernel
theorem dX12_readBeside_29 : decode cX12_readBeside 29 = .ok (.istore_n 2, 1) := by decide +kernel
theorem dX12_readBeside_30 : decode cX12_readBeside 30 = .ok (.iload_n 2, 1) := by decide +kernel
theorem dX12_readBeside_31 : decode cX12_readBeside 31 = .ok (.ifCond .lt 26, 3) := by decide +kernel
theorem dX12_readBeside_34 : decode cX12_readBeside 34 = .ok (.aload_n 0, 1) := by decide +kernel
theorem dX12_readBeside_35 : decode cX12_readBeside 35 = .ok (.getfield 45, 3) := by decide +kernel
theorem dX12_readBeside_38 : decode cX12_readBeside 38 = .ok (.iload_n 1, 1) := by decide +kernel
theorem dX12_readBeside_39 : decode cX12_readBeside 39 = .ok (.iaload, 1) := by decide +kernel
theorem dX12_readBeside_40 : decode cX12_readBeside 40 = .ok (.iload_n 2, 1) := by decide +kernel
theorem dX12_readBeside_41 : decode cX12_readBeside 41 = .ok (.ishr, 1) := by decide +kernel
theorem dX12_readBeside_42 : decode cX12_readBeside 42 = .ok (.iconst 1, 1) := by decide +kernel
theorem dX12_readBeside_43 : decode cX12_readBeside 43 = .ok (.iand, 1) := by decide +kernel
theorem dX12_readBeside_44 : decode cX12_readBeside 44 = .ok (.iconst 1, 1) := by decide +kernel
theorem dX12_readBeside_45 : decode cX12_readBeside 45 = .ok (.if_icmp .ne 12, 3) := by decide +kernel
theorem dX12_readBeside_48 : decode cX12_readBeside 48 = .ok (.aload_n 0, 1) := by decide +kernel
theorem dX12_readBeside_49 : decode cX12_readBeside 49 = .ok (.iconst 3, 1) := by decide +kernel
theorem dX12_readBeside_50 : decode cX12_readBeside 50 = .ok (.aload_n 0, 1) := by decide +kernel
theorem dX12_readBeside_51 : decode cX12_readBeside 51 = .ok (.getfield 206, 3) := by decide +kernel
theorem dX12_readBeside_54 : decode cX12_readBeside 54 = .ok (.invokevirtual 237, 3) := by decide +kernel
theorem dX12_readBeside_24 : decode cX12_readBeside 24 = .ok (.return_, 1) := by decide +kernel
theorem dX12_readWords_9 : decode cX12_readWords 9 = .ok (.iload 5, 2) := by decide +kernel
theorem dX12_readWords_11 : decode cX12_readWords 11 = .ok (.ifCond .eq 58, 3) := by decide +kernel
theorem dX12_readWords_69 : decode cX12_readWords 69 = .ok (.iload 4, 2) := by decide +kernel
theorem dX12_readWords_71 : decode cX12_readWords 71 = .ok (.ireturn, 1) := by decide +kernel
theorem dX12_readWords_14 : decode cX12_readWords 14 = .ok (.aload_n 0, 1) := by decide +kernel
theorem dX12_readWords_15 : decode cX12_readWords 15 = .ok (.aload_n 0, 1) := by decide +kernel
theorem dX12_readWords_16 : decode cX12_readWords 16 = .ok (.invokevirtual 297, 3) := by decide +kernel
theorem dX12_readWords_19 : decode cX12_readWords 19 = .ok (.invokevirtual 305, 3) := by decide +kernel
theorem dX12_readWords_22 : decode cX12_readWords 22 = .ok (.istore 6, 2) := by decide +kernel
theorem dX12_readWords_24 : decode cX12_readWords 24 = .ok (.aload_n 0, 1) := by decide +kernel
theorem dX12_readWords_25 : decode cX12_readWords 25 = .ok (.invokevirtual 241, 3) := by decide +kernel
theorem dX12_readWords_28 : decode cX12_readWords 28 = .ok (.ifCond .ne 6, 3) := by decide +kernel
theorem dX12_readWords_34 : decode cX12_readWords 34 = .ok (.aload_n 1, 1) := by decide +kernel
theorem dX12_readWords_35 : decode cX12_readWords 35 = .ok (.iload_n 2, 1) := by decide +kernel
theorem dX12_readWords_36 : decode cX12_readWords 36 = .ok (.iload 4, 2) := by decide +kernel
theorem dX12_readWords_38 : decode cX12_readWords 38 = .ok (.iadd, 1) := by decide +kernel
theorem dX12_readWords_39 : decode cX12_readWords 39 = .ok (.iload 6, 2) := by decide +kernel
theorem dX12_readWords_41 : decode cX12_readWords 41 = .ok (.iastore, 1) := by decide +kernel
theorem dX12_readWords_42 : decode cX12_readWords 42 = .ok (.iinc 4 1, 3) := by decide +kernel
theorem dX12_readWords_45 : decode cX12_readWords 45 = .ok (.aload_n 0, 1) := by decide +kernel
theorem dX12_readWords_46 : decode cX12_readWords 46 = .ok (.getfield 213, 3) := by decide +kernel
theorem dX12_readWords_49 : decode cX12_readWords 49 = .ok (.iconst 2, 1) := by decide +kernel
theorem dX12_readWords_50 : decode cX12_readWords 50 = .ok (.if_icmp .ne 13, 3) := by decide +kernel
theorem dX12_readWords_63 : decode cX12_readWords 63 = .ok (.iconst 0, 1) := by decide +kernel
theorem dX12_readWords_64 : decode cX12_readWords 64 = .ok (.istore 5, 2) := by decide +kernel
theorem dX12_readWords_66 : decode cX12_readWords 66 = .ok (.goto (-57), 3) := by decide +kernel
theorem dX12_readWords_53 : decode cX12_readWords 53 = .ok (.iload 4, 2) := by decide +kernel
theorem dX12_readWords_55 : decode cX12_readWords 55 = .ok (.iload_n 3, 1) := by decide +kernel
theorem dX12_readWords_56 : decode cX12_readWords 56 = .ok (.if_icmp .ge 7, 3) := by decide +kernel
theorem dX12_readWords_59 : decode cX12_readWords 59 = .ok (.iconst 1, 1) := by decide +kernel
theorem dX12_readWords_60 : decode cX12_readWords 60 = .ok (.goto 4, 3) := by decide +kernel
theorem dX12_readWords_31 : decode cX12_readWords 31 = .ok (.iload 4, 2) := by decide +kernel
theorem dX12_readWords_33 : decode cX12_readWords 33 = .ok (.ireturn, 1) := by decide +kernel
theorem dX12_readWords_0 : decode cX12_readWords 0 = .ok (.iconst 0, 1) := by decide +kernel
theorem dX12_readWords_1 : decode cX12_readWords 1 = .ok (.istore 4, 2) := by decide +kernel
theorem dX12_readWords_3 : decode cX12_readWords 3 = .ok (.aload_n 0, 1) := by decide +kernel
theorem dX12_readWords_4 : decode cX12_readWords 4 = .ok (.invokevirtual 241, 3) := by decide +kernel
theorem dX12_readWords_7 : decode cX12_readWords 7 = .ok (.istore 5, 2) := by decide +kernel
set_option maxRecDepth 100000 in
set_option maxHeartbeats 4000000 in
theorem h_readSaying {l : Launch} {E : (Nat → Prop) → State → Prop} {ad : List Nat} {D : va_G} {cy : Nat → ClassId} (h : fx_env E D classes (tys cy) nestW) (r : Nat) (hr0 : ad[0]? = some r) : hM l yX12_readSaying cX12_readSaying 3 none ({ frames := 4, cells := 0, slots := 0, locals := 91 }) E ad D cy (fun av ws => av = [.ref r] ∧ vi ws 3 (Int.toNat (vi ws 0 35)) ≤ 8 ∧ vi ws 0 7 ≤ 1600) (fun _ ws rv ws1 => fx_sm (gsM, TM, cy, fun _ => True) [(12, 4), (12, 5), (12, 6), (12, 7), (12, 8), (12, 9), (12, 10), (1000, 3), (1000, 9), (1000, 10), (1000, 11), (1000, 20)] ws ws1 ∧ rv = none ∧ vi ws1 0 7 ≤ 1600 ∧ ∃ d : Int, ((d = 0 ∧ 1 ≤ vi ws1 0 4) ∨ d = 1) ∧ ∀ j : Nat, vi ws1 3 j = if j = (Int.toNat (vi ws 0 35)) then vi ws 3 j + d else vi ws 3 j) := by
  refine hM_of h (by decide) ?_
  intro av ws p e s m below meth c hwo hnd hpre hlocks hr C
  obtain ⟨rfl, hpre⟩ := hpre
  refine ⟨Nat.le_of_ble_eq_true rfl, ?_⟩
  refine hr_pick (lv' := [(0, .ref r)]) [0] rfl ?_
  obtain ⟨hw8, he⟩ := hpre
  have hB := fl_b (fi := 35) (lo := 0) (hi := 1) hwo hr0 rfl
  have hW := el_b (fi := 11) (g := 3) (n := 2) (lo := 0) (hi := 9) (j := Int.toNat (vi ws 0 35)) hwo hr0 rfl (by decide) TMa_3 (by omega)
  have h7b := fl_b (fi := 7) (lo := 0) (hi := 1601) hwo hr0 rfl
  have loop : ∀ (q : Nat) (i k : Int) (w : va_W), (9 - k).toNat < q → fx_wo (gsM, TM, cy, fun _ => True) ad w → fx_sm (gsM, TM, cy, fun _ => True) [(12, 4), (12, 5), (12, 6), (12, 7), (12, 8), (12, 9), (12, 10), (1000, 3), (1000, 9), (1000, 10), (1000, 11), (1000, 20)] ws w → vi w 0 7 ≤ 1600 → vi w 0 35 = vi ws 0 35 → (∀ j, vi w 3 j = vi ws 3 j) → 0 ≤ i → i ≤ 17 → 0 ≤ k → k ≤ 9 → HW l E ad D cy (va_A ws s.heap.size) s.heap p e ({ frames := 4, cells := 0, slots := 0, locals := 91 }) s m ([.ref r]).toArray below meth c (MQ below (hQ ad D cy (fun _ ws rv ws1 => fx_sm (gsM, TM, cy, fun _ => True) [(12, 4), (12, 5), (12, 6), (12, 7), (12, 8), (12, 9), (12, 10), (1000, 3), (1000, 9), (1000, 10), (1000, 11), (1000, 20)] ws ws1 ∧ rv = none ∧ vi ws1 0 7 ≤ 1600 ∧ ∃ d : Int, ((d = 0 ∧ 1 ≤ vi ws1 0 4) ∨ d = 1) ∧ ∀ j : Nat, vi ws1 3 j = if j = (Int.toNat (vi ws 0 35)) then vi ws 3 j + d else vi ws 3 j) ([.ref r]) ws s.heap.size) ([.ref r]).toArray s 0 0 (va_A ws s.heap.size)) cX12_readSaying 3 yX12_readSaying.cls 96 [(0, .ref r), (1, zv i), (2, zv k)] [] w := by
    intro q
    induction q with
    | zero => intro i k w hq; omega
    | succ q ih =>
      intro i k w hq how sm he hrb h3 i0 i1 k0 k1
      have hw9 : vi w 3 (Int.toNat (vi w 0 35)) ≤ 8 := by rw [h3, hrb]; exact hw8
      refine hr_iln C 2 dX12_readSaying_96 rfl rfl rfl ?_
      refine hr_bi C dX12_readSaying_97 (by decide +kernel) rfl ?_
      refine hr_cmp C 120 dX12_readSaying_99 (by decide) ⟨by omega, by omega⟩ ⟨by omega, by omega⟩ rfl (fun c1 => ?_) (fun c1 => ?_)
      · have c1 : (9 : Int) ≤ k := c1
        refine hr_aln C 0 dX12_readSaying_120 rfl rfl rfl ?_
        refine hr_gA (g := 3) C hr0 TM0 rfl (by decide) fl_X12_20 dX12_readSaying_121 rfl (fun a2 ha3 => ?_)
        refine hr_aln C 0 dX12_readSaying_124 rfl rfl rfl ?_
        refine hr_gI (lo := 0) (hi := 1) C hr0 TM0 rfl fl_X12_265 dX12_readSaying_125 rfl (fun b4 b5 => ?_)
        refine hr_dup2 C dX12_readSaying_128 rfl rfl rfl ?_
        refine hr_ald C ha3 TMa_3 (by omega) (by omega) (by decide) dX12_readSaying_129 rfl (fun b6 b7 => ?_)
        have b6 := gp1 b6
        simp only [rg] at b7
        refine hr_ic C dX12_readSaying_130 rfl ?_
        refine hr_add C dX12_readSaying_131 rfl ?_
        refine hr_ast C ha3 TMa_3 (by omega) (by omega) (by decide) ⟨by omega, by omega⟩ (hp1 (by omega) (by omega)) dX12_readSaying_132 rfl (fun w8 o9 s10 e11 => ?_)
        exact hr_vret C hlocks hr dX12_readSaying_133 ⟨(fx_sm_tr sm s10 (by decide)), rfl, (by rw [e11, if_neg (by omega)]; omega), ⟨1, Or.inr rfl, fun j => by rw [e11]; by_cases hj : j = Int.toNat (vi ws 0 35); (rw [if_pos ⟨rfl, by rw [hrb]; exact hj⟩, if_pos hj, hrb, ← hj, h3 j]); (rw [if_neg (fun q => hj (by rw [← hrb]; exact q.2)), if_neg hj]; exact (show vi w 3 j = vi w 3 j from rfl).trans (h3 j))⟩⟩
      · have c1 : (k : Int) < 9 := c1
        refine hr_aln C 0 dX12_readSaying_102 rfl rfl rfl ?_
        refine hr_gA (g := 10) C hr0 TM0 rfl (by decide) fl_X12_42 dX12_readSaying_103 rfl (fun a12 ha13 => ?_)
        refine hr_bi C dX12_readSaying_106 (by decide +kernel) rfl ?_
        refine hr_iln C 1 dX12_readSaying_108 rfl rfl rfl ?_
        refine hr_mul C dX12_readSaying_109 rfl ?_
        refine hr_iln C 2 dX12_readSaying_110 rfl rfl rfl ?_
        refine hr_add C dX12_readSaying_111 rfl ?_
        refine hr_ic C dX12_readSaying_112 rfl ?_
        refine hr_ast C ha13 TMa_10 (by omega) (by omega) (by decide) ⟨by omega, by omega⟩ (hp1 (by omega) (by omega)) dX12_readSaying_113 rfl (fun w14 o15 s16 e17 => ?_)
        refine hr_inc (lv' := [(2, zv (k + 1)), (0, .ref r), (1, zv (i))]) C 2 dX12_readSaying_114 rfl (by decide) rfl rfl ?_
        refine hr_goto C 96 dX12_readSaying_117 (by decide) ?_
        refine hr_pick (lv' := [(0, .ref r), (1, zv (i)), (2, zv (k + 1))]) [1, 2, 0] rfl ?_
        exact ih _ _ _ (by omega) o15 (fx_sm_tr sm s16 (by decide)) (by rw [e17, if_neg (by omega)]; omega) (by have : vi w14 0 35 = vi w 0 35 := (by rw [e17, if_neg (by omega)]); omega) (fun j => (show vi w14 3 j = vi w 3 j from (by rw [e17, if_neg (by omega)])).trans (h3 j)) i0 i1 (by omega) (by omega)
  have k49 : ∀ (i : Int) (w : va_W), fx_wo (gsM, TM, cy, fun _ => True) ad w → fx_sm (gsM, TM, cy, fun _ => True) [(12, 4), (12, 5), (12, 6), (12, 7), (12, 8), (12, 9), (12, 10), (1000, 3), (1000, 9), (1000, 10), (1000, 11), (1000, 20)] ws w → vi w 0 7 ≤ 1600 → vi w 0 35 = vi ws 0 35 → (∀ j, vi w 3 j = vi ws 3 j) → 0 ≤ i → i ≤ 17 → HW l E ad D cy (va_A ws s.heap.size) s.heap p e ({ frames := 4, cells := 0, slots := 0, locals := 91 }) s m ([.ref r]).toArray below meth c (MQ below (hQ ad D cy (fun _ ws rv ws1 => fx_sm (gsM, TM, cy, fun _ => True) [(12, 4), (12, 5), (12, 6), (12, 7), (12, 8), (12, 9), (12, 10), (1000, 3), (1000, 9), (1000, 10), (1000, 11), (1000, 20)] ws ws1 ∧ rv = none ∧ vi ws1 0 7 ≤ 1600 ∧ ∃ d : Int, ((d = 0 ∧ 1 ≤ vi ws1 0 4) ∨ d = 1) ∧ ∀ j : Nat, vi ws1 3 j = if j = (Int.toNat (vi ws 0 35)) then vi ws 3 j + d else vi ws 3 j) ([.ref r]) ws s.heap.size) ([.ref r]).toArray s 0 0 (va_A ws s.heap.size)) cX12_readSaying 3 yX12_readSaying.cls 49 [(0, .ref r), (1, zv i)] [] w := by
    intro i w how sm he hrb h3 i0 i1
    have h7c := fl_b (fi := 7) (lo := 0) (hi := 1601) how hr0 rfl
    refine hr_aln C 0 dX12_readSaying_49 rfl rfl rfl ?_
    refine hr_cV (As := []) (rest := []) C (hM_fx (km293 h)) ⟨by decide, by decide⟩ iV_X12_isGood g_X12_241 TM0 hr0 dX12_readSaying_50 rfl rfl (Nat.le_of_ble_eq_true rfl) rfl ⟨(ty_cons (ok_r hr0 (by decide) (by decide)) ty_nil), ⟨_, rfl⟩⟩ (fun w1 rv o2 q3 => ?_)
    obtain ⟨s4, po, hpo5, hrv6, hty7, rt, hfs8⟩ := q3
    replace s4 : fx_sm (gsM, TM, cy, fun _ => True) [] w w1 := s4
    simp only [km293_c, List.mem_cons, List.not_mem_nil, or_false] at hpo5
    rcases hpo5 with rfl | rfl
    · obtain ⟨v9, rfl, hv10⟩ := hrv6
      obtain ⟨z11, rfl, b12, b13, b14⟩ := ok_iz hv10
      simp only [rg] at b14
      obtain rfl : z11 = 1 := by omega
      have hf15 := fs_t hnd o2 hr0 rfl hfs8
      refine hr_norm (st' := [zv (1)]) rfl ?_
      refine hr_if C 57 dX12_readSaying_53 (by decide) ⟨by omega, by omega⟩ rfl (fun c16 => ?_) (fun c16 => absurd (show (1 : Int) = 0 from c16) (by omega))
      have c16 : ¬ (1 : Int) = 0 := c16
      refine hr_aln C 0 dX12_readSaying_57 rfl rfl rfl ?_
      refine hr_gA (g := 20) C hr0 TM0 rfl (by decide) fl_X12_73 dX12_readSaying_58 rfl (fun a17 ha18 => ?_)
      refine hr_iln C 1 dX12_readSaying_61 rfl rfl rfl ?_
      refine hr_aln C 0 dX12_readSaying_62 rfl rfl rfl ?_
      refine hr_gN C hr0 TM0 rfl fl_X12_220 dX12_readSaying_63 rfl (fun x19 hx20 => ?_)
      refine hr_lst C ha18 TMa_20 (by omega) (by omega) (by decide) dX12_readSaying_66 rfl (fun w21 o22 s23 => ?_)
      refine hr_aln C 0 dX12_readSaying_67 rfl rfl rfl ?_
      have h7q24 : vi w21 0 7 = vi w 0 7 := (by rw [sm_f o2 o22 s23 (by decide)]; rw [sm_f how o2 s4 (by decide)])
      refine hr_cV (As := []) (rest := []) C (hM_fx (km292 h)) ⟨by decide, by decide⟩ iV_X12_goOn g_X12_245 TM0 hr0 dX12_readSaying_68 rfl rfl (Nat.le_of_ble_eq_true rfl) rfl ⟨(ty_cons (ok_r hr0 (by decide) (by decide)) ty_nil), (fs_f o22 hr0 rfl ⟨_, _, rfl⟩ (by omega) (by omega))⟩ (fun w25 rv o26 q27 => ?_)
      obtain ⟨s28, po, hpo29, hrv30, hty31, rt, hfs32⟩ := q27
      replace s28 : fx_sm (gsM, TM, cy, fun _ => True) [(12, 6), (12, 7), (12, 8), (12, 9), (12, 10)] w21 w25 := s28
      simp only [km292_c, List.mem_cons, List.not_mem_nil, or_false] at hpo29
      subst hpo29
      obtain rfl := hrv30
      obtain ⟨⟨_, u33⟩, av34, g35, u36⟩ := fs_u (v0 := .ref r) rfl hfs32
      have hf37 := fs_t hnd o26 hr0 rfl u33
      have hf38 := fs_t hnd o26 hr0 g35 u36
      refine hr_norm (st' := []) rfl ?_
      refine hr_aln C 0 dX12_readSaying_71 rfl rfl rfl ?_
      refine hr_gA (g := 9) C hr0 TM0 rfl (by decide) fl_X12_39 dX12_readSaying_72 rfl (fun a39 ha40 => ?_)
      refine hr_iln C 1 dX12_readSaying_75 rfl rfl rfl ?_
      refine hr_aln C 0 dX12_readSaying_76 rfl rfl rfl ?_
      refine hr_ld2 C kc_X12_175 dX12_readSaying_77 rfl ?_
      refine hr_ic C dX12_readSaying_80 rfl ?_
      refine hr_bi C dX12_readSaying_81 (by decide +kernel) rfl ?_
      have h7q41 : vi w25 0 7 = vi w25 0 7 := rfl
      refine hr_cV (As := [.long (Int64.ofInt 512970880104), zv (0), zv (20)]) (rest := [zv (i), .ref a39]) C (hM_fx (km304 h)) ⟨by decide, by decide⟩ iV_X12_after g_X12_301 TM0 hr0 dX12_readSaying_83 rfl rfl (Nat.le_of_ble_eq_true rfl) rfl ⟨(ty_cons (ok_r hr0 (by decide) (by decide)) (ty_cons (ok_l _) (ty_cons (ok_z (by decide) (by decide) (by omega) (by omega)) (ty_cons (ok_z (by decide) (by decide) (by omega) (by omega)) ty_nil)))), (fs_f o26 hr0 rfl ⟨_, _, rfl⟩ (by omega) (by omega))⟩ (fun w42 rv o43 q44 => ?_)
      obtain ⟨s45, po, hpo46, hrv47, hty48, rt, hfs49⟩ := q44
      replace s45 : fx_sm (gsM, TM, cy, fun _ => True) [(12, 4), (12, 5), (12, 6), (12, 7), (12, 8), (12, 9), (12, 10)] w25 w42 := s45
      simp only [km304_c, List.mem_cons, List.not_mem_nil, or_false] at hpo46
      rcases hpo46 with rfl | rfl
      · obtain ⟨v50, rfl, hv51⟩ := hrv47
        obtain ⟨z52, rfl, b53, b54, b55⟩ := ok_iz hv51
        simp only [rg] at b55
        obtain ⟨⟨_, u56⟩, av57, g58, u59⟩ := fs_u (v0 := .ref r) rfl hfs49
        have hf60 := fs_t hnd o43 hr0 rfl u56
        have hf61 := fs_t hnd o43 hr0 g58 u59
        refine hr_norm (st' := [zv (z52), zv (i), .ref a39]) rfl ?_
        refine hr_ast C ha40 TMa_9 (by omega) (by omega) (by decide) ⟨by omega, by omega⟩ (hp1 (by omega) (by omega)) dX12_readSaying_86 rfl (fun w62 o63 s64 e65 => ?_)
        refine hr_aln C 0 dX12_readSaying_87 rfl rfl rfl ?_
        refine hr_gA (g := 11) C hr0 TM0 rfl (by decide) fl_X12_45 dX12_readSaying_88 rfl (fun a66 ha67 => ?_)
        refine hr_iln C 1 dX12_readSaying_91 rfl rfl rfl ?_
        refine hr_ic C dX12_readSaying_92 rfl ?_
        refine hr_ast C ha67 TMa_11 (by omega) (by omega) (by decide) ⟨by omega, by omega⟩ (hp1 (by omega) (by omega)) dX12_readSaying_93 rfl (fun w68 o69 s70 e71 => ?_)
        refine hr_ic C dX12_readSaying_94 rfl ?_
        refine hr_isn (lv' := [(2, zv (0)), (0, .ref r), (1, zv (i))]) C dX12_readSaying_95 rfl (by decide) rfl rfl ?_
        refine hr_pick (lv' := [(0, .ref r), (1, zv (i)), (2, zv (0))]) [1, 2, 0] rfl ?_
        exact loop _ _ _ _ (Nat.lt_succ_self _) o69 (fx_sm_tr (fx_sm_tr (fx_sm_tr (fx_sm_tr (fx_sm_tr (fx_sm_tr sm s4 (by decide)) s23 (by decide)) s28 (by decide)) s45 (by decide)) s64 (by decide)) s70 (by decide)) (by rw [e71, if_neg (by omega)]; rw [e65, if_neg (by omega)]; omega) (by have : vi w68 0 35 = vi w 0 35 := (by rw [e71, if_neg (by omega)]; rw [e65, if_neg (by omega)]; rw [sm_f o26 o43 s45 (by decide)]; rw [sm_f o22 o26 s28 (by decide)]; rw [sm_f o2 o22 s23 (by decide)]; rw [sm_f how o2 s4 (by decide)]); omega) (fun j => (show vi w68 3 j = vi w 3 j from (by rw [e71, if_neg (by omega)]; rw [e65, if_neg (by omega)]; rw [sm_a o26 o43 s45 TMa_3 (by decide)]; rw [sm_a o22 o26 s28 TMa_3 (by decide)]; rw [sm_a o2 o22 s23 TMa_3 (by decide)]; rw [sm_a how o2 s4 TMa_3 (by decide)])).trans (h3 j)) i0 i1 (by omega) (by omega)
      · obtain ⟨v72, rfl, hv73⟩ := hrv47
        obtain ⟨z74, rfl, b75, b76, b77⟩ := ok_iz hv73
        simp only [rg] at b77
        obtain rfl : z74 = 0 := by omega
        obtain ⟨⟨_, u78⟩, av79, g80, u81⟩ := fs_u (v0 := .ref r) rfl hfs49
        have hf82 := fs_t hnd o43 hr0 rfl u78
        have hf83 := fs_t hnd o43 hr0 g80 u81
        refine hr_norm (st' := [zv (0), zv (i), .ref a39]) rfl ?_
        refine hr_ast C ha40 TMa_9 (by omega) (by omega) (by decide) ⟨by omega, by omega⟩ (hp1 (by omega) (by omega)) dX12_readSaying_86 rfl (fun w84 o85 s86 e87 => ?_)
        refine hr_aln C 0 dX12_readSaying_87 rfl rfl rfl ?_
        refine hr_gA (g := 11) C hr0 TM0 rfl (by decide) fl_X12_45 dX12_readSaying_88 rfl (fun a88 ha89 => ?_)
        refine hr_iln C 1 dX12_readSaying_91 rfl rfl rfl ?_
        refine hr_ic C dX12_readSaying_92 rfl ?_
        refine hr_ast C ha89 TMa_11 (by omega) (by omega) (by decide) ⟨by omega, by omega⟩ (hp1 (by omega) (by omega)) dX12_readSaying_93 rfl (fun w90 o91 s92 e93 => ?_)
        refine hr_ic C dX12_readSaying_94 rfl ?_
        refine hr_isn (lv' := [(2, zv (0)), (0, .ref r), (1, zv (i))]) C dX12_readSaying_95 rfl (by decide) rfl rfl ?_
        refine hr_pick (lv' := [(0, .ref r), (1, zv (i)), (2, zv (0))]) [1, 2, 0] rfl ?_
        exact loop _ _ _ _ (Nat.lt_succ_self _) o91 (fx_sm_tr (fx_sm_tr (fx_sm_tr (fx_sm_tr (fx_sm_tr (fx_sm_tr sm s4 (by decide)) s23 (by decide)) s28 (by decide)) s45 (by decide)) s86 (by decide)) s92 (by decide)) (by rw [e93, if_neg (by omega)]; rw [e87, if_neg (by omega)]; omega) (by have : vi w90 0 35 = vi w 0 35 := (by rw [e93, if_neg (by omega)]; rw [e87, if_neg (by omega)]; rw [sm_f o26 o43 s45 (by decide)]; rw [sm_f o22 o26 s28 (by decide)]; rw [sm_f o2 o22 s23 (by decide)]; rw [sm_f how o2 s4 (by decide)]); omega) (fun j => (show vi w90 3 j = vi w 3 j from (by rw [e93, if_neg (by omega)]; rw [e87, if_neg (by omega)]; rw [sm_a o26 o43 s45 TMa_3 (by decide)]; rw [sm_a o22 o26 s28 TMa_3 (by decide)]; rw [sm_a o2 o22 s23 TMa_3 (by decide)]; rw [sm_a how o2 s4 TMa_3 (by decide)])).trans (h3 j)) i0 i1 (by omega) (by omega)
    · obtain ⟨v94, rfl, hv95⟩ := hrv6
      obtain ⟨z96, rfl, b97, b98, b99⟩ := ok_iz hv95
      simp only [rg] at b99
      obtain rfl : z96 = 0 := by omega
      have hf100 := fs_t hnd o2 hr0 rfl hfs8
      refine hr_norm (st' := [zv (0)]) rfl ?_
      refine hr_if C 57 dX12_readSaying_53 (by decide) ⟨by omega, by omega⟩ rfl (fun c101 => absurd (show ¬ (0 : Int) = 0 from c101) (by omega)) (fun c101 => ?_)
      have c101 : (0 : Int) = 0 := c101
      have : vi w1 0 4 = vi w 0 4 := (by rw [sm_f how o2 s4 (by decide)])
      exact hr_vret C hlocks hr dX12_readSaying_56 ⟨(fx_sm_tr sm s4 (by decide)), rfl, (by rw [sm_f how o2 s4 (by decide)]; omega), ⟨0, Or.inl ⟨rfl, by omega⟩, fun j => by rw [Int.add_zero, ite_self]; exact (show vi w1 3 j = vi w 3 j from (by rw [sm_a how o2 s4 TMa_3 (by decide)])).trans (h3 j)⟩⟩
  have h3 : ∀ j, vi ws 3 j = vi ws 3 j := fun _ => rfl
  refine hr_bi C dX12_readSaying_0 (by decide +kernel) rfl ?_
  refine hr_aln C 0 dX12_readSaying_2 rfl rfl rfl ?_
  refine hr_gI (lo := 0) (hi := 1) C hr0 TM0 rfl fl_X12_265 dX12_readSaying_3 rfl (fun b1 b2 => ?_)
  refine hr_mul C dX12_readSaying_6 rfl ?_
  refine hr_aln C 0 dX12_readSaying_7 rfl rfl rfl ?_
  refine hr_gA (g := 3) C hr0 TM0 rfl (by decide) fl_X12_20 dX12_readSaying_8 rfl (fun a3 ha4 => ?_)
  refine hr_aln C 0 dX12_readSaying_11 rfl rfl rfl ?_
  refine hr_gI (lo := 0) (hi := 1) C hr0 TM0 rfl fl_X12_265 dX12_readSaying_12 rfl (fun b5 b6 => ?_)
  refine hr_ald C ha4 TMa_3 (by omega) (by omega) (by decide) dX12_readSaying_15 rfl (fun b7 b8 => ?_)
  have b7 := gp1 b7
  simp only [rg] at b8
  refine hr_add C dX12_readSaying_16 rfl ?_
  refine hr_isn (lv' := [(1, zv ((9 * (vi ws 0 35)) + (vi ws 3 (Int.toNat (vi ws 0 35))))), (0, .ref r)]) C dX12_readSaying_17 rfl (by decide) rfl rfl ?_
  refine hr_aln C 1 dX12_readSaying_18 rfl rfl rfl ?_
  refine hr_gI (lo := -2147483648) (hi := 2147483647) C hr0 TM0 rfl fl_X12_213 dX12_readSaying_19 rfl (fun b9 b10 => ?_)
  refine hr_ic C dX12_readSaying_22 rfl ?_
  refine hr_cmp C 33 dX12_readSaying_23 (by decide) ⟨by omega, by omega⟩ ⟨by omega, by omega⟩ rfl (fun c11 => ?_) (fun c11 => ?_)
  · have c11 : (vi ws 0 8 : Int) = 2 := c11
    refine hr_aln C 1 dX12_readSaying_33 rfl rfl rfl ?_
    refine hr_cV (As := []) (rest := []) C (h_wordNamed h r hr0) ⟨by decide, by decide⟩ iV_X12_wordNamed g_X12_297 TM0 hr0 dX12_readSaying_34 rfl rfl (Nat.le_of_ble_eq_true rfl) rfl ⟨rfl, trivial⟩ (fun w12 rv o13 q14 => ?_)
    obtain ⟨rfl, z1, rfl, z1a, z1b, z1c⟩ := q14
    refine hr_norm (st' := [zv (z1)]) rfl ?_
    refine hr_if C 49 dX12_readSaying_37 (by decide) ⟨by omega, by omega⟩ rfl (fun c15 => ?_) (fun c15 => ?_)
    · have c15 : (z1 : Int) < 0 := c15
      refine hr_pick (lv' := [(0, .ref r), (1, zv ((9 * (vi ws 0 35)) + (vi ws 3 (Int.toNat (vi ws 0 35)))))]) [1, 0] rfl ?_
      exact k49 _ _ hwo fx_sm_refl (by omega) rfl (fun j => rfl) (by omega) (by omega)
    · have c15 : (0 : Int) ≤ z1 := c15
      refine hr_aln C 1 dX12_readSaying_40 rfl rfl rfl ?_
      refine hr_ic C dX12_readSaying_41 rfl ?_
      refine hr_aln C 1 dX12_readSaying_42 rfl rfl rfl ?_
      refine hr_gI (lo := 0) (hi := 1600) C hr0 TM0 rfl fl_X12_206 dX12_readSaying_43 rfl (fun b16 b17 => ?_)
      refine hr_cV (As := [zv (3), zv (vi ws 0 6)]) (rest := []) C (hM_fx (km294 h)) ⟨by decide, by decide⟩ iV_X12_fails g_X12_237 TM0 hr0 dX12_readSaying_46 rfl rfl (Nat.le_of_ble_eq_true rfl) rfl ⟨(ty_cons (ok_r hr0 (by decide) (by decide)) (ty_cons (ok_z (by decide) (by decide) (by omega) (by omega)) (ty_cons (ok_z (by decide) (by decide) (by omega) (by omega)) ty_nil))), ⟨_, rfl⟩⟩ (fun w18 rv o19 q20 => ?_)
      obtain ⟨s21, po, hpo22, hrv23, hty24, rt, hfs25⟩ := q20
      replace s21 : fx_sm (gsM, TM, cy, fun _ => True) [(12, 4), (12, 5)] ws w18 := s21
      simp only [km294_c, List.mem_cons, List.not_mem_nil, or_false] at hpo22
      subst hpo22
      obtain rfl := hrv23
      have hf26 := fs_t hnd o19 hr0 rfl hfs25
      refine hr_norm (st' := []) rfl ?_
      refine hr_pick (lv' := [(0, .ref r), (1, zv ((9 * (vi ws 0 35)) + (vi ws 3 (Int.toNat (vi ws 0 35)))))]) [1, 0] rfl ?_
      exact k49 _ _ o19 (fx_sm_tr fx_sm_refl s21 (by decide)) (by rw [sm_f hwo o19 s21 (by decide)]; omega) (by rw [sm_f hwo o19 s21 (by decide)]) (fun j => (by rw [sm_a hwo o19 s21 TMa_3 (by decide)])) (by omega) (by omega)
  · have c11 : ¬ (vi ws 0 8 : Int) = 2 := c11
    refine hr_aln C 1 dX12_readSaying_26 rfl rfl rfl ?_
    refine hr_cV (As := []) (rest := []) C (hM_fx (km295 h)) ⟨by decide, by decide⟩ iV_X12_misplaced g_X12_248 TM0 hr0 dX12_readSaying_27 rfl rfl (Nat.le_of_ble_eq_true rfl) rfl ⟨(ty_cons (ok_r hr0 (by decide) (by decide)) ty_nil), ⟨_, rfl⟩⟩ (fun w27 rv o28 q29 => ?_)
    obtain ⟨s30, po, hpo31, hrv32, hty33, rt, hfs34⟩ := q29
    replace s30 : fx_sm (gsM, TM, cy, fun _ => True) [(12, 4), (12, 5)] ws w27 := s30
    simp only [km295_c, List.mem_cons, List.not_mem_nil, or_false] at hpo31
    subst hpo31
    obtain rfl := hrv32
    have hf35 := fs_t hnd o28 hr0 rfl hfs34
    refine hr_norm (st' := []) rfl ?_
    refine hr_goto C 49 dX12_readSaying_30 (by decide) ?_
    refine hr_pick (lv' := [(0, .ref r), (1, zv ((9 * (vi ws 0 35)) + (vi ws 3 (Int.toNat (vi ws 0 35)))))]) [1, 0] rfl ?_
    exact k49 _ _ o28 (fx_sm_tr fx_sm_refl s30 (by decide)) (by rw [sm_f hwo o28 s30 (by decide)]; omega) (by rw [sm_f hwo o28 s30 (by decide)]) (fun j => (by rw [sm_a hwo o28 s30 TMa_3 (by decide)])) (by omega) (by omega)
set_option maxRecDepth 100000 in
set_option maxHeartbeats 4000000 in
theorem h_readBeside {l : Launch} {E : (Nat → Prop) → State → Prop} {ad : List Nat} {D : va_G} {cy : Nat → ClassId} (h : fx_env E D classes (tys cy) nestW) (r : Nat) (hr0 : ad[0]? = some r) : hM l yX12_readBeside cX12_readBeside 4 none ({ frames := 3, cells := 0, slots := 0, locals := 67 }) E ad D cy (fun av ws => av = [.ref r] ∧ 0 ≤ vi ws 4 (Int.toNat (vi ws 0 35)) ∧ vi ws 4 (Int.toNat (vi ws 0 35)) ≤ 20 ∧ vi ws 0 7 ≤ 1600) (fun _ ws rv ws1 => fx_sm (gsM, TM, cy, fun _ => True) [(12, 4), (12, 5), (12, 6), (12, 7), (12, 8), (12, 9), (12, 10), (1000, 4), (1000, 10), (1000, 11)] ws ws1 ∧ rv = none ∧ vi ws1 0 7 ≤ 1600 ∧ ∃ d : Int, ((d = 0 ∧ 1 ≤ vi ws1 0 4) ∨ d = 1) ∧ ∀ j : Nat, vi ws1 4 j = if j = (Int.toNat (vi ws 0 35)) then vi ws 4 j + d else vi ws 4 j) := by
  refine hM_of h (by decide) ?_
  intro av ws p e s m below meth c hwo hnd hpre hlocks hr C
  obtain ⟨rfl, hpre⟩ := hpre
  refine ⟨Nat.le_of_ble_eq_true rfl, ?_⟩
  refine hr_pick (lv' := [(0, .ref r)]) [0] rfl ?_
  obtain ⟨hb0, hb1, he⟩ := hpre
  have hB := fl_b (fi := 35) (lo := 0) (hi := 1) hwo hr0 rfl
  have k57 : ∀ (a b : Int) (w : va_W), fx_wo (gsM, TM, cy, fun _ => True) ad w → fx_sm (gsM, TM, cy, fun _ => True) [(12, 4), (12, 5), (12, 6), (12, 7), (12, 8), (12, 9), (12, 10), (1000, 4), (1000, 10), (1000, 11)] ws w → vi w 0 7 ≤ 1600 → vi w 0 35 = vi ws 0 35 → (∀ j, vi w 4 j = vi ws 4 j) → 0 ≤ a → a ≤ 17 → -1 ≤ b → b ≤ 8 → HW l E ad D cy (va_A ws s.heap.size) s.heap p e ({ frames := 3, cells := 0, slots := 0, locals := 67 }) s m ([.ref r]).toArray below meth c (MQ below (hQ ad D cy (fun _ ws rv ws1 => fx_sm (gsM, TM, cy, fun _ => True) [(12, 4), (12, 5), (12, 6), (12, 7), (12, 8), (12, 9), (12, 10), (1000, 4), (1000, 10), (1000, 11)] ws ws1 ∧ rv = none ∧ vi ws1 0 7 ≤ 1600 ∧ ∃ d : Int, ((d = 0 ∧ 1 ≤ vi ws1 0 4) ∨ d = 1) ∧ ∀ j : Nat, vi ws1 4 j = if j = (Int.toNat (vi ws 0 35)) then vi ws 4 j + d else vi ws 4 j) ([.ref r]) ws s.heap.size) ([.ref r]).toArray s 0 0 (va_A ws s.heap.size)) cX12_readBeside 4 yX12_readBeside.cls 57 [(0, .ref r), (1, zv a), (2, zv b)] [] w := by
    intro a b w how sm he hrb h4 a0 a1 b0 b1
    have hb2 : 0 ≤ vi w 4 (Int.toNat (vi w 0 35)) ∧ vi w 4 (Int.toNat (vi w 0 35)) ≤ 20 := by rw [h4, hrb]; exact ⟨hb0, hb1⟩
    refine hr_aln C 0 dX12_readBeside_57 rfl rfl rfl ?_
    refine hr_iln C 2 dX12_readBeside_58 rfl rfl rfl ?_
    refine hr_cV (As := [zv (b)]) (rest := []) C (h_known h r (b) hr0 ⟨by omega, by omega⟩) ⟨by decide, by decide⟩ iV_X12_known g_X12_305 TM0 hr0 dX12_readBeside_59 rfl rfl (Nat.le_of_ble_eq_true rfl) rfl ⟨rfl, (by omega)⟩ (fun w1 rv o2 q3 => ?_)
    obtain ⟨s4, z4e, z4, rfl, z4a, z4b, z4c⟩ := q3
    refine hr_norm (st' := [zv (z4)]) rfl ?_
    refine hr_isn (lv' := [(2, zv (z4)), (0, .ref r), (1, zv (a))]) C dX12_readBeside_62 rfl (by decide) rfl rfl ?_
    refine hr_aln C 1 dX12_readBeside_63 rfl rfl rfl ?_
    have h7d := fl_b (fi := 7) (lo := 0) (hi := 1601) o2 hr0 rfl
    refine hr_cV (As := []) (rest := []) C (hM_fx (km303 h)) ⟨by decide, by decide⟩ iV_X12_signed g_X12_308 TM0 hr0 dX12_readBeside_64 rfl rfl (Nat.le_of_ble_eq_true rfl) rfl ⟨(ty_cons (ok_r hr0 (by decide) (by decide)) ty_nil), (fs_f o2 hr0 rfl ⟨_, _, rfl⟩ (by omega) (by omega))⟩ (fun w5 rv o6 q7 => ?_)
    obtain ⟨s8, po, hpo9, hrv10, hty11, rt, hfs12⟩ := q7
    replace s8 : fx_sm (gsM, TM, cy, fun _ => True) [(12, 4), (12, 5), (12, 6), (12, 7), (12, 8), (12, 9), (12, 10)] w1 w5 := s8
    simp only [km303_c, List.mem_cons, List.not_mem_nil, or_false] at hpo9
    rcases hpo9 with rfl | rfl
    · obtain ⟨v13, rfl, hv14⟩ := hrv10
      obtain ⟨z15, rfl, b16, b17, b18⟩ := ok_iz hv14
      simp only [rg] at b18
      obtain rfl : z15 = 0 := by omega
      obtain ⟨⟨_, u19⟩, av20, g21, u22⟩ := fs_u (v0 := .ref r) rfl hfs12
      have hf23 := fs_t hnd o6 hr0 rfl u19
      have hf24 := fs_t hnd o6 hr0 g21 u22
      refine hr_norm (st' := [zv (0)]) rfl ?_
      refine hr_isn (lv' := [(3, zv (0)), (2, zv (z4)), (0, .ref r), (1, zv (a))]) C dX12_readBeside_67 rfl (by decide) rfl rfl ?_
      refine hr_aln C 2 dX12_readBeside_68 rfl rfl rfl ?_
      refine hr_cV (As := []) (rest := []) C (hM_fx (km293 h)) ⟨by decide, by decide⟩ iV_X12_isGood g_X12_241 TM0 hr0 dX12_readBeside_69 rfl rfl (Nat.le_of_ble_eq_true rfl) rfl ⟨(ty_cons (ok_r hr0 (by decide) (by decide)) ty_nil), ⟨_, rfl⟩⟩ (fun w25 rv o26 q27 => ?_)
      obtain ⟨s28, po, hpo29, hrv30, hty31, rt, hfs32⟩ := q27
      replace s28 : fx_sm (gsM, TM, cy, fun _ => True) [] w5 w25 := s28
      simp only [km293_c, List.mem_cons, List.not_mem_nil, or_false] at hpo29
      rcases hpo29 with rfl | rfl
      · obtain ⟨v33, rfl, hv34⟩ := hrv30
        obtain ⟨z35, rfl, b36, b37, b38⟩ := ok_iz hv34
        simp only [rg] at b38
        obtain rfl : z35 = 1 := by omega
        have hf39 := fs_t hnd o26 hr0 rfl hfs32
        refine hr_norm (st' := [zv (1)]) rfl ?_
        refine hr_if C 76 dX12_readBeside_72 (by decide) ⟨by omega, by omega⟩ rfl (fun c40 => ?_) (fun c40 => absurd (show (1 : Int) = 0 from c40) (by omega))
        have c40 : ¬ (1 : Int) = 0 := c40
        refine hr_aln C 2 dX12_readBeside_76 rfl rfl rfl ?_
        refine hr_gA (g := 11) C hr0 TM0 rfl (by decide) fl_X12_45 dX12_readBeside_77 rfl (fun a41 ha42 => ?_)
        refine hr_iln C 3 dX12_readBeside_80 rfl rfl rfl ?_
        refine hr_dup2 C dX12_readBeside_81 rfl rfl rfl ?_
        refine hr_ald C ha42 TMa_11 (by omega) (by omega) (by decide) dX12_readBeside_82 rfl (fun b43 b44 => ?_)
        have b43 := gp1 b43
        have q45 : vi w25 11 (Int.toNat (a)) = vi w 11 (Int.toNat (a)) := by rw [sm_a o6 o26 s28 TMa_11 (by decide)]; rw [sm_a o2 o6 s8 TMa_11 (by decide)]; rw [sm_a how o2 s4 TMa_11 (by decide)]
        rw [q45] at b43 b44 ⊢
        simp only [rg] at b44
        refine hr_ic C dX12_readBeside_83 rfl ?_
        refine hr_iln C 1 dX12_readBeside_84 rfl rfl rfl ?_
        refine hr_xishl C dX12_readBeside_85 rfl (fun z46 h47 => ?_)
        simp only [rg] at h47
        refine hr_xior C dX12_readBeside_86 rfl (fun z48 h49 => ?_)
        simp only [rg] at h49
        refine hr_ast C ha42 TMa_11 (by omega) (by omega) (by decide) ⟨by omega, by omega⟩ (hp1 (by omega) (by omega)) dX12_readBeside_87 rfl (fun w50 o51 s52 e53 => ?_)
        refine hr_aln C 2 dX12_readBeside_88 rfl rfl rfl ?_
        refine hr_gA (g := 10) C hr0 TM0 rfl (by decide) fl_X12_42 dX12_readBeside_89 rfl (fun a54 ha55 => ?_)
        refine hr_bi C dX12_readBeside_92 (by decide +kernel) rfl ?_
        refine hr_iln C 3 dX12_readBeside_94 rfl rfl rfl ?_
        refine hr_mul C dX12_readBeside_95 rfl ?_
        refine hr_iln C 1 dX12_readBeside_96 rfl rfl rfl ?_
        refine hr_add C dX12_readBeside_97 rfl ?_
        refine hr_iln C 0 dX12_readBeside_98 rfl rfl rfl ?_
        refine hr_ast C ha55 TMa_10 (by omega) (by omega) (by decide) ⟨by omega, by omega⟩ (hp1 (by omega) (by omega)) dX12_readBeside_99 rfl (fun w56 o57 s58 e59 => ?_)
        refine hr_aln C 2 dX12_readBeside_100 rfl rfl rfl ?_
        refine hr_gA (g := 4) C hr0 TM0 rfl (by decide) fl_X12_24 dX12_readBeside_101 rfl (fun a60 ha61 => ?_)
        refine hr_aln C 2 dX12_readBeside_104 rfl rfl rfl ?_
        refine hr_gI (lo := 0) (hi := 1) C hr0 TM0 rfl fl_X12_265 dX12_readBeside_105 rfl (fun b62 b63 => ?_)
        have q64 : vi w56 0 35 = vi w 0 35 := by rw [e59, if_neg (by omega)]; rw [e53, if_neg (by omega)]; rw [sm_f o6 o26 s28 (by decide)]; rw [sm_f o2 o6 s8 (by decide)]; rw [sm_f how o2 s4 (by decide)]
        rw [q64] at b62 b63 ⊢
        refine hr_dup2 C dX12_readBeside_108 rfl rfl rfl ?_
        refine hr_ald C ha61 TMa_4 (by omega) (by omega) (by decide) dX12_readBeside_109 rfl (fun b65 b66 => ?_)
        have b65 := gp1 b65
        have q67 : vi w56 4 (Int.toNat (vi w 0 35)) = vi w 4 (Int.toNat (vi w 0 35)) := by rw [e59, if_neg (by omega)]; rw [e53, if_neg (by omega)]; rw [sm_a o6 o26 s28 TMa_4 (by decide)]; rw [sm_a o2 o6 s8 TMa_4 (by decide)]; rw [sm_a how o2 s4 TMa_4 (by decide)]
        rw [q67] at b65 b66 ⊢
        simp only [rg] at b66
        refine hr_ic C dX12_readBeside_110 rfl ?_
        refine hr_add C dX12_readBeside_111 rfl ?_
        refine hr_ast C ha61 TMa_4 (by omega) (by omega) (by decide) ⟨by omega, by omega⟩ (hp1 (by omega) (by omega)) dX12_readBeside_112 rfl (fun w68 o69 s70 e71 => ?_)
        exact hr_vret C hlocks hr dX12_readBeside_113 ⟨(fx_sm_tr (fx_sm_tr (fx_sm_tr (fx_sm_tr (fx_sm_tr (fx_sm_tr sm s4 (by decide)) s8 (by decide)) s28 (by decide)) s52 (by decide)) s58 (by decide)) s70 (by decide)), rfl, (by rw [e71, if_neg (by omega)]; rw [e59, if_neg (by omega)]; rw [e53, if_neg (by omega)]; rw [sm_f o6 o26 s28 (by decide)]; omega), ⟨1, Or.inr rfl, fun j => by rw [e71]; by_cases hj : j = Int.toNat (vi ws 0 35); (rw [if_pos ⟨rfl, by rw [hrb]; exact hj⟩, if_pos hj, hrb, ← hj, h4 j]); (rw [if_neg (fun q => hj (by rw [← hrb]; exact q.2)), if_neg hj]; exact (show vi w56 4 j = vi w 4 j from (by rw [e59, if_neg (by omega)]; rw [e53, if_neg (by omega)]; rw [sm_a o6 o26 s28 TMa_4 (by decide)]; rw [sm_a o2 o6 s8 TMa_4 (by decide)]; rw [sm_a how o2 s4 TMa_4 (by decide)])).trans (h4 j))⟩⟩
      · obtain ⟨v72, rfl, hv73⟩ := hrv30
        obtain ⟨z74, rfl, b75, b76, b77⟩ := ok_iz hv73
        simp only [rg] at b77
        obtain rfl : z74 = 0 := by omega
        have hf78 := fs_t hnd o26 hr0 rfl hfs32
        refine hr_norm (st' := [zv (0)]) rfl ?_
        refine hr_if C 76 dX12_readBeside_72 (by decide) ⟨by omega, by omega⟩ rfl (fun c79 => absurd (show ¬ (0 : Int) = 0 from c79) (by omega)) (fun c79 => ?_)
        have c79 : (0 : Int) = 0 := c79
        have : vi w25 0 4 = vi w5 0 4 := (by rw [sm_f o6 o26 s28 (by decide)])
        have : vi w5 0 4 = vi w5 0 4 := rfl
        have : vi w1 0 4 = vi w1 0 4 := rfl
        exact hr_vret C hlocks hr dX12_readBeside_75 ⟨(fx_sm_tr (fx_sm_tr (fx_sm_tr sm s4 (by decide)) s8 (by decide)) s28 (by decide)), rfl, (by rw [sm_f o6 o26 s28 (by decide)]; omega), ⟨0, Or.inl ⟨rfl, by omega⟩, fun j => by rw [Int.add_zero, ite_self]; exact (show vi w25 4 j = vi w 4 j from (by rw [sm_a o6 o26 s28 TMa_4 (by decide)]; rw [sm_a o2 o6 s8 TMa_4 (by decide)]; rw [sm_a how o2 s4 TMa_4 (by decide)])).trans (h4 j)⟩⟩
    · obtain ⟨v80, rfl, hv81⟩ := hrv10
      obtain ⟨z82, rfl, b83, b84, b85⟩ := ok_iz hv81
      simp only [rg] at b85
      obtain ⟨⟨_, u86⟩, av87, g88, u89⟩ := fs_u (v0 := .ref r) rfl hfs12
      have hf90 := fs_t hnd o6 hr0 rfl u86
      have hf91 := fs_t hnd o6 hr0 g88 u89
      refine hr_norm (st' := [zv (z82)]) rfl ?_
      refine hr_isn (lv' := [(3, zv (z82)), (2, zv (z4)), (0, .ref r), (1, zv (a))]) C dX12_readBeside_67 rfl (by decide) rfl rfl ?_
      refine hr_aln C 2 dX12_readBeside_68 rfl rfl rfl ?_
      refine hr_cV (As := []) (rest := []) C (hM_fx (km293 h)) ⟨by decide, by decide⟩ iV_X12_isGood g_X12_241 TM0 hr0 dX12_readBeside_69 rfl rfl (Nat.le_of_ble_eq_true rfl) rfl ⟨(ty_cons (ok_r hr0 (by decide) (by decide)) ty_nil), ⟨_, rfl⟩⟩ (fun w92 rv o93 q94 => ?_)
      obtain ⟨s95, po, hpo96, hrv97, hty98, rt, hfs99⟩ := q94
      replace s95 : fx_sm (gsM, TM, cy, fun _ => True) [] w5 w92 := s95
      simp only [km293_c, List.mem_cons, List.not_mem_nil, or_false] at hpo96
      rcases hpo96 with rfl | rfl
      · obtain ⟨v100, rfl, hv101⟩ := hrv97
        obtain ⟨z102, rfl, b103, b104, b105⟩ := ok_iz hv101
        simp only [rg] at b105
        obtain rfl : z102 = 1 := by omega
        have hf106 := fs_t hnd o93 hr0 rfl hfs99
        refine hr_norm (st' := [zv (1)]) rfl ?_
        refine hr_if C 76 dX12_readBeside_72 (by decide) ⟨by omega, by omega⟩ rfl (fun c107 => ?_) (fun c107 => absurd (show (1 : Int) = 0 from c107) (by omega))
        have c107 : ¬ (1 : Int) = 0 := c107
        refine hr_aln C 2 dX12_readBeside_76 rfl rfl rfl ?_
        refine hr_gA (g := 11) C hr0 TM0 rfl (by decide) fl_X12_45 dX12_readBeside_77 rfl (fun a108 ha109 => ?_)
        refine hr_iln C 3 dX12_readBeside_80 rfl rfl rfl ?_
        refine hr_dup2 C dX12_readBeside_81 rfl rfl rfl ?_
        refine hr_ald C ha109 TMa_11 (by omega) (by omega) (by decide) dX12_readBeside_82 rfl (fun b110 b111 => ?_)
        have b110 := gp1 b110
        have q112 : vi w92 11 (Int.toNat (a)) = vi w 11 (Int.toNat (a)) := by rw [sm_a o6 o93 s95 TMa_11 (by decide)]; rw [sm_a o2 o6 s8 TMa_11 (by decide)]; rw [sm_a how o2 s4 TMa_11 (by decide)]
        rw [q112] at b110 b111 ⊢
        simp only [rg] at b111
        refine hr_ic C dX12_readBeside_83 rfl ?_
        refine hr_iln C 1 dX12_readBeside_84 rfl rfl rfl ?_
        refine hr_xishl C dX12_readBeside_85 rfl (fun z113 h114 => ?_)
        simp only [rg] at h114
        refine hr_xior C dX12_readBeside_86 rfl (fun z115 h116 => ?_)
        simp only [rg] at h116
        refine hr_ast C ha109 TMa_11 (by omega) (by omega) (by decide) ⟨by omega, by omega⟩ (hp1 (by omega) (by omega)) dX12_readBeside_87 rfl (fun w117 o118 s119 e120 => ?_)
        refine hr_aln C 2 dX12_readBeside_88 rfl rfl rfl ?_
        refine hr_gA (g := 10) C hr0 TM0 rfl (by decide) fl_X12_42 dX12_readBeside_89 rfl (fun a121 ha122 => ?_)
        refine hr_bi C dX12_readBeside_92 (by decide +kernel) rfl ?_
        refine hr_iln C 3 dX12_readBeside_94 rfl rfl rfl ?_
        refine hr_mul C dX12_readBeside_95 rfl ?_
        refine hr_iln C 1 dX12_readBeside_96 rfl rfl rfl ?_
        refine hr_add C dX12_readBeside_97 rfl ?_
        refine hr_iln C 0 dX12_readBeside_98 rfl rfl rfl ?_
        refine hr_ast C ha122 TMa_10 (by omega) (by omega) (by decide) ⟨by omega, by omega⟩ (hp1 (by omega) (by omega)) dX12_readBeside_99 rfl (fun w123 o124 s125 e126 => ?_)
        refine hr_aln C 2 dX12_readBeside_100 rfl rfl rfl ?_
        refine hr_gA (g := 4) C hr0 TM0 rfl (by decide) fl_X12_24 dX12_readBeside_101 rfl (fun a127 ha128 => ?_)
        refine hr_aln C 2 dX12_readBeside_104 rfl rfl rfl ?_
        refine hr_gI (lo := 0) (hi := 1) C hr0 TM0 rfl fl_X12_265 dX12_readBeside_105 rfl (fun b129 b130 => ?_)
        have q131 : vi w123 0 35 = vi w 0 35 := by rw [e126, if_neg (by omega)]; rw [e120, if_neg (by omega)]; rw [sm_f o6 o93 s95 (by decide)]; rw [sm_f o2 o6 s8 (by decide)]; rw [sm_f how o2 s4 (by decide)]
        rw [q131] at b129 b130 ⊢
        refine hr_dup2 C dX12_readBeside_108 rfl rfl rfl ?_
        refine hr_ald C ha128 TMa_4 (by omega) (by omega) (by decide) dX12_readBeside_109 rfl (fun b132 b133 => ?_)
        have b132 := gp1 b132
        have q134 : vi w123 4 (Int.toNat (vi w 0 35)) = vi w 4 (Int.toNat (vi w 0 35)) := by rw [e126, if_neg (by omega)]; rw [e120, if_neg (by omega)]; rw [sm_a o6 o93 s95 TMa_4 (by decide)]; rw [sm_a o2 o6 s8 TMa_4 (by decide)]; rw [sm_a how o2 s4 TMa_4 (by decide)]
        rw [q134] at b132 b133 ⊢
        simp only [rg] at b133
        refine hr_ic C dX12_readBeside_110 rfl ?_
        refine hr_add C dX12_readBeside_111 rfl ?_
        refine hr_ast C ha128 TMa_4 (by omega) (by omega) (by decide) ⟨by omega, by omega⟩ (hp1 (by omega) (by omega)) dX12_readBeside_112 rfl (fun w135 o136 s137 e138 => ?_)
        exact hr_vret C hlocks hr dX12_readBeside_113 ⟨(fx_sm_tr (fx_sm_tr (fx_sm_tr (fx_sm_tr (fx_sm_tr (fx_sm_tr sm s4 (by decide)) s8 (by decide)) s95 (by decide)) s119 (by decide)) s125 (by decide)) s137 (by decide)), rfl, (by rw [e138, if_neg (by omega)]; rw [e126, if_neg (by omega)]; rw [e120, if_neg (by omega)]; rw [sm_f o6 o93 s95 (by decide)]; omega), ⟨1, Or.inr rfl, fun j => by rw [e138]; by_cases hj : j = Int.toNat (vi ws 0 35); (rw [if_pos ⟨rfl, by rw [hrb]; exact hj⟩, if_pos hj, hrb, ← hj, h4 j]); (rw [if_neg (fun q => hj (by rw [← hrb]; exact q.2)), if_neg hj]; exact (show vi w123 4 j = vi w 4 j from (by rw [e126, if_neg (by omega)]; rw [e120, if_neg (by omega)]; rw [sm_a o6 o93 s95 TMa_4 (by decide)]; rw [sm_a o2 o6 s8 TMa_4 (by decide)]; rw [sm_a how o2 s4 TMa_4 (by decide)])).trans (h4 j))⟩⟩
      · obtain ⟨v139, rfl, hv140⟩ := hrv97
        obtain ⟨z141, rfl, b142, b143, b144⟩ := ok_iz hv140
        simp only [rg] at b144
        obtain rfl : z141 = 0 := by omega
        have hf145 := fs_t hnd o93 hr0 rfl hfs99
        refine hr_norm (st' := [zv (0)]) rfl ?_
        refine hr_if C 76 dX12_readBeside_72 (by decide) ⟨by omega, by omega⟩ rfl (fun c146 => absurd (show ¬ (0 : Int) = 0 from c146) (by omega)) (fun c146 => ?_)
        have c146 : (0 : Int) = 0 := c146
        have : vi w92 0 4 = vi w5 0 4 := (by rw [sm_f o6 o93 s95 (by decide)])
        have : vi w5 0 4 = vi w5 0 4 := rfl
        have : vi w1 0 4 = vi w1 0 4 := rfl
        exact hr_vret C hlocks hr dX12_readBeside_75 ⟨(fx_sm_tr (fx_sm_tr (fx_sm_tr sm s4 (by decide)) s8 (by decide)) s95 (by decide)), rfl, (by rw [sm_f o6 o93 s95 (by decide)]; omega), ⟨0, Or.inl ⟨rfl, by omega⟩, fun j => by rw [Int.add_zero, ite_self]; exact (show vi w92 4 j = vi w 4 j from (by rw [sm_a o6 o93 s95 TMa_4 (by decide)]; rw [sm_a o2 o6 s8 TMa_4 (by decide)]; rw [sm_a how o2 s4 TMa_4 (by decide)])).trans (h4 j)⟩⟩
  have h4 : ∀ j, vi ws 4 j = vi ws 4 j := fun _ => rfl
  refine hr_bi C dX12_readBeside_0 (by decide +kernel) rfl ?_
  refine hr_aln C 0 dX12_readBeside_2 rfl rfl rfl ?_
  refine hr_gI (lo := 0) (hi := 1) C hr0 TM0 rfl fl_X12_265 dX12_readBeside_3 rfl (fun b1 b2 => ?_)
  refine hr_mul C dX12_readBeside_6 rfl ?_
  refine hr_aln C 0 dX12_readBeside_7 rfl rfl rfl ?_
  refine hr_aln C 0 dX12_readBeside_8 rfl rfl rfl ?_
  refine hr_cV (As := []) (rest := [.ref r, zv (9 * (vi ws 0 35))]) C (h_wordNamed h r hr0) ⟨by decide, by decide⟩ iV_X12_wordNamed g_X12_297 TM0 hr0 dX12_readBeside_9 rfl rfl (Nat.le_of_ble_eq_true rfl) rfl ⟨rfl, trivial⟩ (fun w3 rv o4 q5 => ?_)
  obtain ⟨rfl, z1, rfl, z1a, z1b, z1c⟩ := q5
  refine hr_norm (st' := [zv (z1), .ref r, zv (9 * (vi ws 0 35))]) rfl ?_
  refine hr_cV (As := [zv (z1)]) (rest := [zv (9 * (vi ws 0 35))]) C (h_known h r (z1) hr0 ⟨by omega, by omega⟩) ⟨by decide, by decide⟩ iV_X12_known g_X12_305 TM0 hr0 dX12_readBeside_12 rfl rfl (Nat.le_of_ble_eq_true rfl) rfl ⟨rfl, (by omega)⟩ (fun w6 rv o7 q8 => ?_)
  obtain ⟨s9, z2e, z2, rfl, z2a, z2b, z2c⟩ := q8
  refine hr_norm (st' := [zv (z2), zv (9 * (vi ws 0 35))]) rfl ?_
  refine hr_add C dX12_readBeside_15 rfl ?_
  refine hr_isn (lv' := [(1, zv ((9 * (vi ws 0 35)) + z2)), (0, .ref r)]) C dX12_readBeside_16 rfl (by decide) rfl rfl ?_
  refine hr_aln C 1 dX12_readBeside_17 rfl rfl rfl ?_
  refine hr_cV (As := []) (rest := []) C (hM_fx (km293 h)) ⟨by decide, by decide⟩ iV_X12_isGood g_X12_241 TM0 hr0 dX12_readBeside_18 rfl rfl (Nat.le_of_ble_eq_true rfl) rfl ⟨(ty_cons (ok_r hr0 (by decide) (by decide)) ty_nil), ⟨_, rfl⟩⟩ (fun w10 rv o11 q12 => ?_)
  obtain ⟨s13, po, hpo14, hrv15, hty16, rt, hfs17⟩ := q12
  replace s13 : fx_sm (gsM, TM, cy, fun _ => True) [] w6 w10 := s13
  simp only [km293_c, List.mem_cons, List.not_mem_nil, or_false] at hpo14
  rcases hpo14 with rfl | rfl
  · obtain ⟨v18, rfl, hv19⟩ := hrv15
    obtain ⟨z20, rfl, b21, b22, b23⟩ := ok_iz hv19
    simp only [rg] at b23
    obtain rfl : z20 = 1 := by omega
    have hf24 := fs_t hnd o11 hr0 rfl hfs17
    refine hr_norm (st' := [zv (1)]) rfl ?_
    refine hr_if C 25 dX12_readBeside_21 (by decide) ⟨by omega, by omega⟩ rfl (fun c25 => ?_) (fun c25 => absurd (show (1 : Int) = 0 from c25) (by omega))
    have c25 : ¬ (1 : Int) = 0 := c25
    refine hr_aln C 1 dX12_readBeside_25 rfl rfl rfl ?_
    refine hr_cV (As := []) (rest := []) C (h_wordNamed h r hr0) ⟨by decide, by decide⟩ iV_X12_wordNamed g_X12_297 TM0 hr0 dX12_readBeside_26 rfl rfl (Nat.le_of_ble_eq_true rfl) rfl ⟨rfl, trivial⟩ (fun w26 rv o27 q28 => ?_)
    obtain ⟨rfl, z3, rfl, z3a, z3b, z3c⟩ := q28
    refine hr_norm (st' := [zv (z3)]) rfl ?_
    refine hr_isn (lv' := [(2, zv (z3)), (1, zv ((9 * (vi ws 0 35)) + z2)), (0, .ref r)]) C dX12_readBeside_29 rfl (by decide) rfl rfl ?_
    refine hr_iln C 0 dX12_readBeside_30 rfl rfl rfl ?_
    refine hr_if C 57 dX12_readBeside_31 (by decide) ⟨by omega, by omega⟩ rfl (fun c29 => ?_) (fun c29 => ?_)
    · have c29 : (z3 : Int) < 0 := c29
      refine hr_pick (lv' := [(0, .ref r), (1, zv ((9 * (vi ws 0 35)) + z2)), (2, zv (z3))]) [2, 1, 0] rfl ?_
      exact k57 _ _ _ o11 (fx_sm_tr (fx_sm_tr fx_sm_refl s9 (by decide)) s13 (by decide)) (by rw [sm_f o7 o11 s13 (by decide)]; omega) (by rw [sm_f o7 o11 s13 (by decide)]; rw [sm_f hwo o7 s9 (by decide)]) (fun j => (by rw [sm_a o7 o11 s13 TMa_4 (by decide)]; rw [sm_a hwo o7 s9 TMa_4 (by decide)])) (by omega) (by omega) (by omega) (by omega)
    · have c29 : (0 : Int) ≤ z3 := c29
      refine hr_aln C 2 dX12_readBeside_34 rfl rfl rfl ?_
      refine hr_gA (g := 11) C hr0 TM0 rfl (by decide) fl_X12_45 dX12_readBeside_35 rfl (fun a30 ha31 => ?_)
      refine hr_iln C 1 dX12_readBeside_38 rfl rfl rfl ?_
      refine hr_ald C ha31 TMa_11 (by omega) (by omega) (by decide) dX12_readBeside_39 rfl (fun b32 b33 => ?_)
      have b32 := gp1 b32
      have q34 : vi w10 11 (Int.toNat ((9 * (vi ws 0 35)) + z2)) = vi ws 11 (Int.toNat ((9 * (vi ws 0 35)) + z2)) := by rw [sm_a o7 o11 s13 TMa_11 (by decide)]; rw [sm_a hwo o7 s9 TMa_11 (by decide)]
      rw [q34] at b32 b33 ⊢
      simp only [rg] at b33
      refine hr_iln C 0 dX12_readBeside_40 rfl rfl rfl ?_
      refine hr_xishr C dX12_readBeside_41 rfl (fun z35 h36 => ?_)
      simp only [rg] at h36
      refine hr_ic C dX12_readBeside_42 rfl ?_
      refine hr_xiand C dX12_readBeside_43 rfl (fun z37 h38 => ?_)
      simp only [rg] at h38
      refine hr_ic C dX12_readBeside_44 rfl ?_
      refine hr_cmp C 57 dX12_readBeside_45 (by decide) ⟨by omega, by omega⟩ ⟨by omega, by omega⟩ rfl (fun c39 => ?_) (fun c39 => ?_)
      · have c39 : ¬ (z37 : Int) = 1 := c39
        refine hr_pick (lv' := [(0, .ref r), (1, zv ((9 * (vi ws 0 35)) + z2)), (2, zv (z3))]) [2, 1, 0] rfl ?_
        exact k57 _ _ _ o11 (fx_sm_tr (fx_sm_tr fx_sm_refl s9 (by decide)) s13 (by decide)) (by rw [sm_f o7 o11 s13 (by decide)]; omega) (by rw [sm_f o7 o11 s13 (by decide)]; rw [sm_f hwo o7 s9 (by decide)]) (fun j => (by rw [sm_a o7 o11 s13 TMa_4 (by decide)]; rw [sm_a hwo o7 s9 TMa_4 (by decide)])) (by omega) (by omega) (by omega) (by omega)
      · have c39 : (z37 : Int) = 1 := c39
        refine hr_aln C 2 dX12_readBeside_48 rfl rfl rfl ?_
        refine hr_ic C dX12_readBeside_49 rfl ?_
        refine hr_aln C 2 dX12_readBeside_50 rfl rfl rfl ?_
        refine hr_gI (lo := 0) (hi := 1600) C hr0 TM0 rfl fl_X12_206 dX12_readBeside_51 rfl (fun b40 b41 => ?_)
        have q42 : vi w10 0 6 = vi w6 0 6 := by rw [sm_f o7 o11 s13 (by decide)]
        rw [q42] at b40 b41 ⊢
        refine hr_cV (As := [zv (3), zv (vi w6 0 6)]) (rest := []) C (hM_fx (km294 h)) ⟨by decide, by decide⟩ iV_X12_fails g_X12_237 TM0 hr0 dX12_readBeside_54 rfl rfl (Nat.le_of_ble_eq_true rfl) rfl ⟨(ty_cons (ok_r hr0 (by decide) (by decide)) (ty_cons (ok_z (by decide) (by decide) (by omega) (by omega)) (ty_cons (ok_z (by decide) (by decide) (by omega) (by omega)) ty_nil))), ⟨_, rfl⟩⟩ (fun w43 rv o44 q45 => ?_)
        obtain ⟨s46, po, hpo47, hrv48, hty49, rt, hfs50⟩ := q45
        replace s46 : fx_sm (gsM, TM, cy, fun _ => True) [(12, 4), (12, 5)] w10 w43 := s46
        simp only [km294_c, List.mem_cons, List.not_mem_nil, or_false] at hpo47
        subst hpo47
        obtain rfl := hrv48
        have hf51 := fs_t hnd o44 hr0 rfl hfs50
        refine hr_norm (st' := []) rfl ?_
        refine hr_pick (lv' := [(0, .ref r), (1, zv ((9 * (vi ws 0 35)) + z2)), (2, zv (z3))]) [2, 1, 0] rfl ?_
        exact k57 _ _ _ o44 (fx_sm_tr (fx_sm_tr (fx_sm_tr fx_sm_refl s9 (by decide)) s13 (by decide)) s46 (by decide)) (by rw [sm_f o11 o44 s46 (by decide)]; rw [sm_f o7 o11 s13 (by decide)]; omega) (by rw [sm_f o11 o44 s46 (by decide)]; rw [sm_f o7 o11 s13 (by decide)]; rw [sm_f hwo o7 s9 (by decide)]) (fun j => (by rw [sm_a o11 o44 s46 TMa_4 (by decide)]; rw [sm_a o7 o11 s13 TMa_4 (by decide)]; rw [sm_a hwo o7 s9 TMa_4 (by decide)])) (by omega) (by omega) (by omega) (by omega)
  · obtain ⟨v52, rfl, hv53⟩ := hrv15
    obtain ⟨z54, rfl, b55, b56, b57⟩ := ok_iz hv53
    simp only [rg] at b57
    obtain rfl : z54 = 0 := by omega
    have hf58 := fs_t hnd o11 hr0 rfl hfs17
    refine hr_norm (st' := [zv (0)]) rfl ?_
    refine hr_if C 25 dX12_readBeside_21 (by decide) ⟨by omega, by omega⟩ rfl (fun c59 => absurd (show ¬ (0 : Int) = 0 from c59) (by omega)) (fun c59 => ?_)
    have c59 : (0 : Int) = 0 := c59
    have : vi w10 0 4 = vi w6 0 4 := (by rw [sm_f o7 o11 s13 (by decide)])
    have : vi w6 0 4 = vi w6 0 4 := rfl
    exact hr_vret C hlocks hr dX12_readBeside_24 ⟨(fx_sm_tr (fx_sm_tr fx_sm_refl s9 (by decide)) s13 (by decide)), rfl, (by rw [sm_f o7 o11 s13 (by decide)]; omega), ⟨0, Or.inl ⟨rfl, by omega⟩, fun j => by rw [Int.add_zero, ite_self]; exact (show vi w10 4 j = vi ws 4 j from (by rw [sm_a o7 o11 s13 TMa_4 (by decide)]; rw [sm_a hwo o7 s9 TMa_4 (by decide)])).trans (h4 j)⟩⟩
set_option maxRecDepth 100000 in
set_option maxHeartbeats 4000000 in
theorem h_readWords_12 {l : Launch} {E : (Nat → Prop) → State → Prop} {ad : List Nat} {D : va_G} {cy : Nat → ClassId} (h : fx_env E D classes (tys cy) nestW) (r a : Nat) (fr mo : Int) (hr0 : ad[0]? = some r) (hag : ad[12]? = some a) (hfr : 0 ≤ fr ∧ fr + mo ≤ 24) (hmo : 1 ≤ mo ∧ mo ≤ 12) : hM l yX12_readWords cX12_readWords 7 (some .int) ({ frames := 3, cells := 0, slots := 0, locals := 65 }) E ad D cy (fun av ws => av = [.ref r, .ref a, zv fr, zv mo] ∧ vi ws 0 7 ≤ 1600) (fun _ ws rv ws1 => fx_sm (gsM, TM, cy, fun _ => True) [(12, 4), (12, 5), (12, 6), (12, 7), (12, 8), (12, 9), (12, 10), (1000, 12)] ws ws1 ∧ vi ws1 0 7 ≤ 1600 ∧ ∃ z, rv = some (zv z) ∧ 0 ≤ z ∧ z ≤ mo ∧ (∀ k : Nat, (k : Int) < z → vi ws1 12 (fr + k).toNat < vi ws 3 (Int.toNat (vi ws 0 35))) ∧ ∀ j : Nat, ((j : Int) < fr ∨ fr + mo ≤ j) → vi ws1 12 j = vi ws 12 j) := by
  refine hM_of h (by decide) ?_
  intro av ws p e s m below meth c hwo hnd hpre hlocks hr C
  obtain ⟨rfl, hpre⟩ := hpre
  refine ⟨Nat.le_of_ble_eq_true rfl, ?_⟩
  refine hr_pick (lv' := [(0, .ref r), (1, .ref a), (2, zv fr), (3, zv mo)]) [0, 1, 2, 3] rfl ?_
  have he := hpre
  have loop : ∀ (q : Nat) (n b : Int) (w : va_W), (mo - n).toNat < q → fx_wo (gsM, TM, cy, fun _ => True) ad w → fx_sm (gsM, TM, cy, fun _ => True) [(12, 4), (12, 5), (12, 6), (12, 7), (12, 8), (12, 9), (12, 10), (1000, 12)] ws w → vi w 0 7 ≤ 1600 → vi w 0 35 = vi ws 0 35 → (∀ j, vi w 3 j = vi ws 3 j) → 0 ≤ n → n ≤ mo → (b = 0 ∨ (b = 1 ∧ n < mo)) → (∀ k : Nat, (k : Int) < n → vi w 12 (fr + k).toNat < vi ws 3 (Int.toNat (vi ws 0 35))) → (∀ j : Nat, ((j : Int) < fr ∨ fr + mo ≤ j) → vi w 12 j = vi ws 12 j) → HW l E ad D cy (va_A ws s.heap.size) s.heap p e ({ frames := 3, cells := 0, slots := 0, locals := 65 }) s m ([.ref r, .ref a, zv fr, zv mo]).toArray below meth c (MQ below (hQ ad D cy (fun _ ws rv ws1 => fx_sm (gsM, TM, cy, fun _ => True) [(12, 4), (12, 5), (12, 6), (12, 7), (12, 8), (12, 9), (12, 10), (1000, 12)] ws ws1 ∧ vi ws1 0 7 ≤ 1600 ∧ ∃ z, rv = some (zv z) ∧ 0 ≤ z ∧ z ≤ mo ∧ (∀ k : Nat, (k : Int) < z → vi ws1 12 (fr + k).toNat < vi ws 3 (Int.toNat (vi ws 0 35))) ∧ ∀ j : Nat, ((j : Int) < fr ∨ fr + mo ≤ j) → vi ws1 12 j = vi ws 12 j) ([.ref r, .ref a, zv fr, zv mo]) ws s.heap.size) ([.ref r, .ref a, zv fr, zv mo]).toArray s 0 0 (va_A ws s.heap.size)) cX12_readWords 7 yX12_readWords.cls 9 [(0, .ref r), (1, .ref a), (2, zv fr), (3, zv mo), (4, zv n), (5, zv b)] [] w := by
    intro q
    induction q with
    | zero => intro n b w hq how sm he hrb h3 n0 n1 hb; omega
    | succ q ih =>
      intro n b w hq how sm he hrb h3 n0 n1 hb hk hj
      refine hr_il C 5 dX12_readWords_9 rfl rfl ?_
      refine hr_if C 69 dX12_readWords_11 (by decide) ⟨by omega, by omega⟩ rfl (fun c1 => ?_) (fun c1 => ?_)
      · have c1 : (b : Int) = 0 := c1
        refine hr_il C 4 dX12_readWords_69 rfl rfl ?_
        exact hr_iret C hlocks hr dX12_readWords_71 ⟨sm, (by omega), _, rfl, by omega, by omega, fun k hk1 => by exact hk k hk1, fun j hj1 => (show vi w 12 j = vi w 12 j from rfl).trans (hj j hj1)⟩
      · have c1 : ¬ (b : Int) = 0 := c1
        refine hr_aln C 0 dX12_readWords_14 rfl rfl rfl ?_
        refine hr_aln C 0 dX12_readWords_15 rfl rfl rfl ?_
        refine hr_cV (As := []) (rest := [.ref r]) C (h_wordNamed h r hr0) ⟨by decide, by decide⟩ iV_X12_wordNamed g_X12_297 TM0 hr0 dX12_readWords_16 rfl rfl (Nat.le_of_ble_eq_true rfl) rfl ⟨rfl, trivial⟩ (fun w2 rv o3 q4 => ?_)
        obtain ⟨rfl, z1, rfl, z1a, z1b, z1c⟩ := q4
        refine hr_norm (st' := [zv (z1), .ref r]) rfl ?_
        refine hr_cV (As := [zv (z1)]) (rest := []) C (h_known h r (z1) hr0 ⟨by omega, by omega⟩) ⟨by decide, by decide⟩ iV_X12_known g_X12_305 TM0 hr0 dX12_readWords_19 rfl rfl (Nat.le_of_ble_eq_true rfl) rfl ⟨rfl, (by omega)⟩ (fun w5 rv o6 q7 => ?_)
        obtain ⟨s8, z2e, z2, rfl, z2a, z2b, z2c⟩ := q7
        refine hr_norm (st' := [zv (z2)]) rfl ?_
        refine hr_is (lv' := [(6, zv (z2)), (0, .ref r), (1, .ref a), (2, zv (fr)), (3, zv (mo)), (4, zv (n)), (5, zv (b))]) C dX12_readWords_22 (by decide) rfl rfl ?_
        refine hr_aln C 1 dX12_readWords_24 rfl rfl rfl ?_
        refine hr_cV (As := []) (rest := []) C (hM_fx (km293 h)) ⟨by decide, by decide⟩ iV_X12_isGood g_X12_241 TM0 hr0 dX12_readWords_25 rfl rfl (Nat.le_of_ble_eq_true rfl) rfl ⟨(ty_cons (ok_r hr0 (by decide) (by decide)) ty_nil), ⟨_, rfl⟩⟩ (fun w9 rv o10 q11 => ?_)
        obtain ⟨s12, po, hpo13, hrv14, hty15, rt, hfs16⟩ := q11
        replace s12 : fx_sm (gsM, TM, cy, fun _ => True) [] w5 w9 := s12
        simp only [km293_c, List.mem_cons, List.not_mem_nil, or_false] at hpo13
        rcases hpo13 with rfl | rfl
        · obtain ⟨v17, rfl, hv18⟩ := hrv14
          obtain ⟨z19, rfl, b20, b21, b22⟩ := ok_iz hv18
          simp only [rg] at b22
          obtain rfl : z19 = 1 := by omega
          have hf23 := fs_t hnd o10 hr0 rfl hfs16
          refine hr_norm (st' := [zv (1)]) rfl ?_
          have : vi w9 0 4 = vi w5 0 4 := (by rw [sm_f o6 o10 s12 (by decide)])
          have : vi w5 0 4 = vi w5 0 4 := rfl
          refine hr_if C 34 dX12_readWords_28 (by decide) ⟨by omega, by omega⟩ rfl (fun c24 => ?_) (fun c24 => absurd (show (1 : Int) = 0 from c24) (by omega))
          have c24 : ¬ (1 : Int) = 0 := c24
          refine hr_aln C 2 dX12_readWords_34 rfl rfl rfl ?_
          refine hr_iln C 3 dX12_readWords_35 rfl rfl rfl ?_
          refine hr_il C 5 dX12_readWords_36 rfl rfl ?_
          refine hr_add C dX12_readWords_38 rfl ?_
          refine hr_il C 0 dX12_readWords_39 rfl rfl ?_
          refine hr_ast C hag TMa_12 (by omega) (by omega) (by decide) ⟨by omega, by omega⟩ (hp1 (by omega) (by omega)) dX12_readWords_41 rfl (fun w25 o26 s27 e28 => ?_)
          refine hr_inc (lv' := [(4, zv (n + 1)), (6, zv (z2)), (0, .ref r), (1, .ref a), (2, zv (fr)), (3, zv (mo)), (5, zv (b))]) C 5 dX12_readWords_42 rfl (by decide) rfl rfl ?_
          refine hr_aln C 2 dX12_readWords_45 rfl rfl rfl ?_
          refine hr_gI (lo := -2147483648) (hi := 2147483647) C hr0 TM0 rfl fl_X12_213 dX12_readWords_46 rfl (fun b29 b30 => ?_)
          have q31 : vi w25 0 8 = vi w5 0 8 := by rw [e28, if_neg (by omega)]; rw [sm_f o6 o10 s12 (by decide)]
          rw [q31] at b29 b30 ⊢
          refine hr_ic C dX12_readWords_49 rfl ?_
          refine hr_cmp C 63 dX12_readWords_50 (by decide) ⟨by omega, by omega⟩ ⟨by omega, by omega⟩ rfl (fun c32 => ?_) (fun c32 => ?_)
          · have c32 : ¬ (vi w5 0 8 : Int) = 2 := c32
            refine hr_ic C dX12_readWords_63 rfl ?_
            refine hr_is (lv' := [(5, zv (0)), (4, zv (n + 1)), (6, zv (z2)), (0, .ref r), (1, .ref a), (2, zv (fr)), (3, zv (mo))]) C dX12_readWords_64 (by decide) rfl rfl ?_
            refine hr_goto C 9 dX12_readWords_66 (by decide) ?_
            have : vi w9 0 4 = vi w5 0 4 := (by rw [sm_f o6 o10 s12 (by decide)])
            have : vi w5 0 4 = vi w5 0 4 := rfl
            have hz : z2 < vi ws 3 (Int.toNat (vi ws 0 35)) := by
              have hq1 : z1 < vi ws 3 (Int.toNat (vi ws 0 35)) := by rw [← hrb, ← h3]; exact z1b
              omega
            have hk2 : ∀ k : Nat, (k : Int) < n + 1 → vi w25 12 (fr + k).toNat < vi ws 3 (Int.toNat (vi ws 0 35)) := by
              intro k hk1
              rw [e28]
              by_cases hkn : (k : Int) = n
              · rw [if_pos ⟨rfl, by omega⟩]; exact hz
              · rw [if_neg (by omega)]; rw [sm_a o6 o10 s12 TMa_12 (by decide)]; rw [sm_a how o6 s8 TMa_12 (by decide)]; exact hk k (by omega)
            have hj2 : ∀ j : Nat, ((j : Int) < fr ∨ fr + mo ≤ j) → vi w25 12 j = vi ws 12 j := by
              intro j hj1
              rw [e28, if_neg (by omega)]; rw [sm_a o6 o10 s12 TMa_12 (by decide)]; rw [sm_a how o6 s8 TMa_12 (by decide)]; exact hj j hj1
            refine hr_pick (lv' := [(0, .ref r), (1, .ref a), (2, zv (fr)), (3, zv (mo)), (4, zv (n + 1)), (5, zv (0))]) [3, 4, 5, 6, 1, 0] rfl ?_
            exact ih _ _ _ (by omega) o26 (fx_sm_tr (fx_sm_tr (fx_sm_tr sm s8 (by decide)) s12 (by decide)) s27 (by decide)) (by rw [e28, if_neg (by omega)]; rw [sm_f o6 o10 s12 (by decide)]; omega) (by have : vi w25 0 35 = vi w 0 35 := (by rw [e28, if_neg (by omega)]; rw [sm_f o6 o10 s12 (by decide)]; rw [sm_f how o6 s8 (by decide)]); omega) (fun j => (show vi w25 3 j = vi w 3 j from (by rw [e28, if_neg (by omega)]; rw [sm_a o6 o10 s12 TMa_3 (by decide)]; rw [sm_a how o6 s8 TMa_3 (by decide)])).trans (h3 j)) (by omega) (by omega) (by omega) hk2 hj2
          · have c32 : (vi w5 0 8 : Int) = 2 := c32
            refine hr_il C 0 dX12_readWords_53 rfl rfl ?_
            refine hr_iln C 5 dX12_readWords_55 rfl rfl rfl ?_
            refine hr_cmp C 63 dX12_readWords_56 (by decide) ⟨by omega, by omega⟩ ⟨by omega, by omega⟩ rfl (fun c33 => ?_) (fun c33 => ?_)
            · have c33 : (mo : Int) ≤ n + 1 := c33
              refine hr_ic C dX12_readWords_63 rfl ?_
              refine hr_is (lv' := [(5, zv (0)), (4, zv (n + 1)), (6, zv (z2)), (0, .ref r), (1, .ref a), (2, zv (fr)), (3, zv (mo))]) C dX12_readWords_64 (by decide) rfl rfl ?_
              refine hr_goto C 9 dX12_readWords_66 (by decide) ?_
              have : vi w9 0 4 = vi w5 0 4 := (by rw [sm_f o6 o10 s12 (by decide)])
              have : vi w5 0 4 = vi w5 0 4 := rfl
              have hz : z2 < vi ws 3 (Int.toNat (vi ws 0 35)) := by
                have hq1 : z1 < vi ws 3 (Int.toNat (vi ws 0 35)) := by rw [← hrb, ← h3]; exact z1b
                omega
              have hk2 : ∀ k : Nat, (k : Int) < n + 1 → vi w25 12 (fr + k).toNat < vi ws 3 (Int.toNat (vi ws 0 35)) := by
                intro k hk1
                rw [e28]
                by_cases hkn : (k : Int) = n
                · rw [if_pos ⟨rfl, by omega⟩]; exact hz
                · rw [if_neg (by omega)]; rw [sm_a o6 o10 s12 TMa_12 (by decide)]; rw [sm_a how o6 s8 TMa_12 (by decide)]; exact hk k (by omega)
              have hj2 : ∀ j : Nat, ((j : Int) < fr ∨ fr + mo ≤ j) → vi w25 12 j = vi ws 12 j := by
                intro j hj1
                rw [e28, if_neg (by omega)]; rw [sm_a o6 o10 s12 TMa_12 (by decide)]; rw [sm_a how o6 s8 TMa_12 (by decide)]; exact hj j hj1
              refine hr_pick (lv' := [(0, .ref r), (1, .ref a), (2, zv (fr)), (3, zv (mo)), (4, zv (n + 1)), (5, zv (0))]) [3, 4, 5, 6, 1, 0] rfl ?_
              exact ih _ _ _ (by omega) o26 (fx_sm_tr (fx_sm_tr (fx_sm_tr sm s8 (by decide)) s12 (by decide)) s27 (by decide)) (by rw [e28, if_neg (by omega)]; rw [sm_f o6 o10 s12 (by decide)]; omega) (by have : vi w25 0 35 = vi w 0 35 := (by rw [e28, if_neg (by omega)]; rw [sm_f o6 o10 s12 (by decide)]; rw [sm_f how o6 s8 (by decide)]); omega) (fun j => (show vi w25 3 j = vi w 3 j from (by rw [e28, if_neg (by omega)]; rw [sm_a o6 o10 s12 TMa_3 (by decide)]; rw [sm_a how o6 s8 TMa_3 (by decide)])).trans (h3 j)) (by omega) (by omega) (by omega) hk2 hj2
            · have c33 : (n + 1 : Int) < mo := c33
              refine hr_ic C dX12_readWords_59 rfl ?_
              refine hr_goto C 64 dX12_readWords_60 (by decide) ?_
              refine hr_is (lv' := [(5, zv (1)), (4, zv (n + 1)), (6, zv (z2)), (0, .ref r), (1, .ref a), (2, zv (fr)), (3, zv (mo))]) C dX12_readWords_64 (by decide) rfl rfl ?_
              refine hr_goto C 9 dX12_readWords_66 (by decide) ?_
              have : vi w9 0 4 = vi w5 0 4 := (by rw [sm_f o6 o10 s12 (by decide)])
              have : vi w5 0 4 = vi w5 0 4 := rfl
              have hz : z2 < vi ws 3 (Int.toNat (vi ws 0 35)) := by
                have hq1 : z1 < vi ws 3 (Int.toNat (vi ws 0 35)) := by rw [← hrb, ← h3]; exact z1b
                omega
              have hk2 : ∀ k : Nat, (k : Int) < n + 1 → vi w25 12 (fr + k).toNat < vi ws 3 (Int.toNat (vi ws 0 35)) := by
                intro k hk1
                rw [e28]
                by_cases hkn : (k : Int) = n
                · rw [if_pos ⟨rfl, by omega⟩]; exact hz
                · rw [if_neg (by omega)]; rw [sm_a o6 o10 s12 TMa_12 (by decide)]; rw [sm_a how o6 s8 TMa_12 (by decide)]; exact hk k (by omega)
              have hj2 : ∀ j : Nat, ((j : Int) < fr ∨ fr + mo ≤ j) → vi w25 12 j = vi ws 12 j := by
                intro j hj1
                rw [e28, if_neg (by omega)]; rw [sm_a o6 o10 s12 TMa_12 (by decide)]; rw [sm_a how o6 s8 TMa_12 (by decide)]; exact hj j hj1
              refine hr_pick (lv' := [(0, .ref r), (1, .ref a), (2, zv (fr)), (3, zv (mo)), (4, zv (n + 1)), (5, zv (1))]) [3, 4, 5, 6, 1, 0] rfl ?_
              exact ih _ _ _ (by omega) o26 (fx_sm_tr (fx_sm_tr (fx_sm_tr sm s8 (by decide)) s12 (by decide)) s27 (by decide)) (by rw [e28, if_neg (by omega)]; rw [sm_f o6 o10 s12 (by decide)]; omega) (by have : vi w25 0 35 = vi w 0 35 := (by rw [e28, if_neg (by omega)]; rw [sm_f o6 o10 s12 (by decide)]; rw [sm_f how o6 s8 (by decide)]); omega) (fun j => (show vi w25 3 j = vi w 3 j from (by rw [e28, if_neg (by omega)]; rw [sm_a o6 o10 s12 TMa_3 (by decide)]; rw [sm_a how o6 s8 TMa_3 (by decide)])).trans (h3 j)) (by omega) (by omega) (by omega) hk2 hj2
        · obtain ⟨v34, rfl, hv35⟩ := hrv14
          obtain ⟨z36, rfl, b37, b38, b39⟩ := ok_iz hv35
          simp only [rg] at b39
          obtain rfl : z36 = 0 := by omega
          have hf40 := fs_t hnd o10 hr0 rfl hfs16
          refine hr_norm (st' := [zv (0)]) rfl ?_
          have : vi w9 0 4 = vi w5 0 4 := (by rw [sm_f o6 o10 s12 (by decide)])
          have : vi w5 0 4 = vi w5 0 4 := rfl
          refine hr_if C 34 dX12_readWords_28 (by decide) ⟨by omega, by omega⟩ rfl (fun c41 => absurd (show ¬ (0 : Int) = 0 from c41) (by omega)) (fun c41 => ?_)
          have c41 : (0 : Int) = 0 := c41
          refine hr_il C 5 dX12_readWords_31 rfl rfl ?_
          exact hr_iret C hlocks hr dX12_readWords_33 ⟨(fx_sm_tr (fx_sm_tr sm s8 (by decide)) s12 (by decide)), (by rw [sm_f o6 o10 s12 (by decide)]; omega), _, rfl, by omega, by omega, fun k hk1 => by rw [sm_a o6 o10 s12 TMa_12 (by decide)]; rw [sm_a how o6 s8 TMa_12 (by decide)]; exact hk k hk1, fun j hj1 => (show vi w9 12 j = vi w 12 j from (by rw [sm_a o6 o10 s12 TMa_12 (by decide)]; rw [sm_a how o6 s8 TMa_12 (by decide)])).trans (hj j hj1)⟩
  refine hr_ic C dX12_readWords_0 rfl ?_
  refine hr_is (lv' := [(4, zv (0)), (0, .ref r), (1, .ref a), (2, zv (fr)), (3, zv (mo))]) C dX12_readWords_1 (by decide) rfl rfl ?_
  refine hr_aln C 1 dX12_readWords_3 rfl rfl rfl ?_
  refine hr_cV (As := []) (rest := []) C (hM_fx (km293 h)) ⟨by decide, by decide⟩ iV_X12_isGood g_X12_241 TM0 hr0 dX12_readWords_4 rfl rfl (Nat.le_of_ble_eq_true rfl) rfl ⟨(ty_cons (ok_r hr0 (by decide) (by decide)) ty_nil), ⟨_, rfl⟩⟩ (fun w1 rv o2 q3 => ?_)
  obtain ⟨s4, po, hpo5, hrv6, hty7, rt, hfs8⟩ := q3
  replace s4 : fx_sm (gsM, TM, cy, fun _ => True) [] ws w1 := s4
  simp only [km293_c, List.mem_cons, List.not_mem_nil, or_false] at hpo5
  rcases hpo5 with rfl | rfl
  · obtain ⟨v9, rfl, hv10⟩ := hrv6
    obtain ⟨z11, rfl, b12, b13, b14⟩ := ok_iz hv10
    simp only [rg] at b14
    obtain rfl : z11 = 1 := by omega
    have hf15 := fs_t hnd o2 hr0 rfl hfs8
    refine hr_norm (st' := [zv (1)]) rfl ?_
    refine hr_is (lv' := [(5, zv (1)), (4, zv (0)), (0, .ref r), (1, .ref a), (2, zv (fr)), (3, zv (mo))]) C dX12_readWords_7 (by decide) rfl rfl ?_
    refine hr_pick (lv' := [(0, .ref r), (1, .ref a), (2, zv (fr)), (3, zv (mo)), (4, zv (0)), (5, zv (1))]) [2, 3, 4, 5, 1, 0] rfl ?_
    exact loop _ _ _ _ (Nat.lt_succ_self _) o2 (fx_sm_tr fx_sm_refl s4 (by decide)) (by rw [sm_f hwo o2 s4 (by decide)]; omega) (by rw [sm_f hwo o2 s4 (by decide)]) (fun j => (by rw [sm_a hwo o2 s4 TMa_3 (by decide)])) (by omega) (by omega) (by omega) (fun k hk1 => by omega) (fun j _ => (by rw [sm_a hwo o2 s4 TMa_12 (by decide)]))
  · obtain ⟨v16, rfl, hv17⟩ := hrv6
    obtain ⟨z18, rfl, b19, b20, b21⟩ := ok_iz hv17
    simp only [rg] at b21
    obtain rfl : z18 = 0 := by omega
    have hf22 := fs_t hnd o2 hr0 rfl hfs8
    refine hr_norm (st' := [zv (0)]) rfl ?_
    refine hr_is (lv' := [(5, zv (0)), (4, zv (0)), (0, .ref r), (1, .ref a), (2, zv (fr)), (3, zv (mo))]) C dX12_readWords_7 (by decide) rfl rfl ?_
    refine hr_pick (lv' := [(0, .ref r), (1, .ref a), (2, zv (fr)), (3, zv (mo)), (4, zv (0)), (5, zv (0))]) [2, 3, 4, 5, 1, 0] rfl ?_
    exact loop _ _ _ _ (Nat.lt_succ_self _) o2 (fx_sm_tr fx_sm_refl s4 (by decide)) (by rw [sm_f hwo o2 s4 (by decide)]; omega) (by rw [sm_f hwo o2 s4 (by decide)]) (fun j => (by rw [sm_a hwo o2 s4 TMa_3 (by decide)])) (by omega) (by omega) (by omega) (fun k hk1 => by omega) (fun j _ => (by rw [sm_a hwo o2 s4 TMa_12 (by decide)]))
set_option maxRecDepth 100000 in
set_option maxHeartbeats 4000000 in
theorem h_readWords_14 {l : Launch} {E : (Nat → Prop) → State → Prop} {ad : List Nat} {D : va_G} {cy : Nat → ClassId} (h : fx_env E D classes (tys cy) nestW) (r a : Nat) (fr mo : Int) (hr0 : ad[0]? = some r) (hag : ad[14]? = some a) (hfr : 0 ≤ fr ∧ fr + mo ≤ 80) (hmo : 1 ≤ mo ∧ mo ≤ 12) : hM l yX12_readWords cX12_readWords 7 (some .int) ({ frames := 3, cells := 0, slots := 0, locals := 65 }) E ad D cy (fun av ws => av = [.ref r, .ref a, zv fr, zv mo] ∧ vi ws 0 7 ≤ 1600) (fun _ ws rv ws1 => fx_sm (gsM, TM, cy, fun _ => True) [(12, 4), (12, 5), (12, 6), (12, 7), (12, 8), (12, 9), (12, 10), (1000, 14)] ws ws1 ∧ vi ws1 0 7 ≤ 1600 ∧ ∃ z, rv = some (zv z) ∧ 0 ≤ z ∧ z ≤ mo ∧ (∀ k : Nat, (k : Int) < z → vi ws1 14 (fr + k).toNat < vi ws 3 (Int.toNat (vi ws 0 35))) ∧ ∀ j : Nat, ((j : Int) < fr ∨ fr + mo ≤ j) → vi ws1 14 j = vi ws 14 j) := by
  refine hM_of h (by decide) ?_
  intro av ws p e s m below meth c hwo hnd hpre hlocks hr C
  obtain ⟨rfl, hpre⟩ := hpre
  refine ⟨Nat.le_of_ble_eq_true rfl, ?_⟩
  refine hr_pick (lv' := [(0, .ref r), (1, .ref a), (2, zv fr), (3, zv mo)]) [0, 1, 2, 3] rfl ?_
  have he := hpre
  have loop : ∀ (q : Nat) (n b : Int) (w : va_W), (mo - n).toNat < q → fx_wo (gsM, TM, cy, fun _ => True) ad w → fx_sm (gsM, TM, cy, fun _ => True) [(12, 4), (12, 5), (12, 6), (12, 7), (12, 8), (12, 9), (12, 10), (1000, 14)] ws w → vi w 0 7 ≤ 1600 → vi w 0 35 = vi ws 0 35 → (∀ j, vi w 3 j = vi ws 3 j) → 0 ≤ n → n ≤ mo → (b = 0 ∨ (b = 1 ∧ n < mo)) → (∀ k : Nat, (k : Int) < n → vi w 14 (fr + k).toNat < vi ws 3 (Int.toNat (vi ws 0 35))) → (∀ j : Nat, ((j : Int) < fr ∨ fr + mo ≤ j) → vi w 14 j = vi ws 14 j) → HW l E ad D cy (va_A ws s.heap.size) s.heap p e ({ frames := 3, cells := 0, slots := 0, locals := 65 }) s m ([.ref r, .ref a, zv fr, zv mo]).toArray below meth c (MQ below (hQ ad D cy (fun _ ws rv ws1 => fx_sm (gsM, TM, cy, fun _ => True) [(12, 4), (12, 5), (12, 6), (12, 7), (12, 8), (12, 9), (12, 10), (1000, 14)] ws ws1 ∧ vi ws1 0 7 ≤ 1600 ∧ ∃ z, rv = some (zv z) ∧ 0 ≤ z ∧ z ≤ mo ∧ (∀ k : Nat, (k : Int) < z → vi ws1 14 (fr + k).toNat < vi ws 3 (Int.toNat (vi ws 0 35))) ∧ ∀ j : Nat, ((j : Int) < fr ∨ fr + mo ≤ j) → vi ws1 14 j = vi ws 14 j) ([.ref r, .ref a, zv fr, zv mo]) ws s.heap.size) ([.ref r, .ref a, zv fr, zv mo]).toArray s 0 0 (va_A ws s.heap.size)) cX12_readWords 7 yX12_readWords.cls 9 [(0, .ref r), (1, .ref a), (2, zv fr), (3, zv mo), (4, zv n), (5, zv b)] [] w := by
    intro q
    induction q with
    | zero => intro n b w hq how sm he hrb h3 n0 n1 hb; omega
    | succ q ih =>
      intro n b w hq how sm he hrb h3 n0 n1 hb hk hj
      refine hr_il C 5 dX12_readWords_9 rfl rfl ?_
      refine hr_if C 69 dX12_readWords_11 (by decide) ⟨by omega, by omega⟩ rfl (fun c1 => ?_) (fun c1 => ?_)
      · have c1 : (b : Int) = 0 := c1
        refine hr_il C 4 dX12_readWords_69 rfl rfl ?_
        exact hr_iret C hlocks hr dX12_readWords_71 ⟨sm, (by omega), _, rfl, by omega, by omega, fun k hk1 => by exact hk k hk1, fun j hj1 => (show vi w 14 j = vi w 14 j from rfl).trans (hj j hj1)⟩
      · have c1 : ¬ (b : Int) = 0 := c1
        refine hr_aln C 0 dX12_readWords_14 rfl rfl rfl ?_
        refine hr_aln C 0 dX12_readWords_15 rfl rfl rfl ?_
        refine hr_cV (As := []) (rest := [.ref r]) C (h_wordNamed h r hr0) ⟨by decide, by decide⟩ iV_X12_wordNamed g_X12_297 TM0 hr0 dX12_readWords_16 rfl rfl (Nat.le_of_ble_eq_true rfl) rfl ⟨rfl, trivial⟩ (fun w2 rv o3 q4 => ?_)
        obtain ⟨rfl, z1, rfl, z1a, z1b, z1c⟩ := q4
        refine hr_norm (st' := [zv (z1), .ref r]) rfl ?_
        refine hr_cV (As := [zv (z1)]) (rest := []) C (h_known h r (z1) hr0 ⟨by omega, by omega⟩) ⟨by decide, by decide⟩ iV_X12_known g_X12_305 TM0 hr0 dX12_readWords_19 rfl rfl (Nat.le_of_ble_eq_true rfl) rfl ⟨rfl, (by omega)⟩ (fun w5 rv o6 q7 => ?_)
        obtain ⟨s8, z2e, z2, rfl, z2a, z2b, z2c⟩ := q7
        refine hr_norm (st' := [zv (z2)]) rfl ?_
        refine hr_is (lv' := [(6, zv (z2)), (0, .ref r), (1, .ref a), (2, zv (fr)), (3, zv (mo)), (4, zv (n)), (5, zv (b))]) C dX12_readWords_22 (by decide) rfl rfl ?_
        refine hr_aln C 1 dX12_readWords_24 rfl rfl rfl ?_
        refine hr_cV (As := []) (rest := []) C (hM_fx (km293 h)) ⟨by decide, by decide⟩ iV_X12_isGood g_X12_241 TM0 hr0 dX12_readWords_25 rfl rfl (Nat.le_of_ble_eq_true rfl) rfl ⟨(ty_cons (ok_r hr0 (by decide) (by decide)) ty_nil), ⟨_, rfl⟩⟩ (fun w9 rv o10 q11 => ?_)
        obtain ⟨s12, po, hpo13, hrv14, hty15, rt, hfs16⟩ := q11
        replace s12 : fx_sm (gsM, TM, cy, fun _ => True) [] w5 w9 := s12
        simp only [km293_c, List.mem_cons, List.not_mem_nil, or_false] at hpo13
        rcases hpo13 with rfl | rfl
        · obtain ⟨v17, rfl, hv18⟩ := hrv14
          obtain ⟨z19, rfl, b20, b21, b22⟩ := ok_iz hv18
          simp only [rg] at b22
          obtain rfl : z19 = 1 := by omega
          have hf23 := fs_t hnd o10 hr0 rfl hfs16
          refine hr_norm (st' := [zv (1)]) rfl ?_
          have : vi w9 0 4 = vi w5 0 4 := (by rw [sm_f o6 o10 s12 (by decide)])
          have : vi w5 0 4 = vi w5 0 4 := rfl
          refine hr_if C 34 dX12_readWords_28 (by decide) ⟨by omega, by omega⟩ rfl (fun c24 => ?_) (fun c24 => absurd (show (1 : Int) = 0 from c24) (by omega))
          have c24 : ¬ (1 : Int) = 0 := c24
          refine hr_aln C 2 dX12_readWords_34 rfl rfl rfl ?_
          refine hr_iln C 3 dX12_readWords_35 rfl rfl rfl ?_
          refine hr_il C 5 dX12_readWords_36 rfl rfl ?_
          refine hr_add C dX12_readWords_38 rfl ?_
          refine hr_il C 0 dX12_readWords_39 rfl rfl ?_
          refine hr_ast C hag TMa_14 (by omega) (by omega) (by decide) ⟨by omega, by omega⟩ (hp1 (by omega) (by omega)) dX12_readWords_41 rfl (fun w25 o26 s27 e28 => ?_)
          refine hr_inc (lv' := [(4, zv (n + 1)), (6, zv (z2)), (0, .ref r), (1, .ref a), (2, zv (fr)), (3, zv (mo)), (5, zv (b))]) C 5 dX12_readWords_42 rfl (by decide) rfl rfl ?_
          refine hr_aln C 2 dX12_readWords_45 rfl rfl rfl ?_
          refine hr_gI (lo := -2147483648) (hi := 2147483647) C hr0 TM0 rfl fl_X12_213 dX12_readWords_46 rfl (fun b29 b30 => ?_)
          have q31 : vi w25 0 8 = vi w5 0 8 := by rw [e28, if_neg (by omega)]; rw [sm_f o6 o10 s12 (by decide)]
          rw [q31] at b29 b30 ⊢
          refine hr_ic C dX12_readWords_49 rfl ?_
          refine hr_cmp C 63 dX12_readWords_50 (by decide) ⟨by omega, by omega⟩ ⟨by omega, by omega⟩ rfl (fun c32 => ?_) (fun c32 => ?_)
          · have c32 : ¬ (vi w5 0 8 : Int) = 2 := c32
            refine hr_ic C dX12_readWords_63 rfl ?_
            refine hr_is (lv' := [(5, zv (0)), (4, zv (n + 1)), (6, zv (z2)), (0, .ref r), (1, .ref a), (2, zv (fr)), (3, zv (mo))]) C dX12_readWords_64 (by decide) rfl rfl ?_
            refine hr_goto C 9 dX12_readWords_66 (by decide) ?_
            have : vi w9 0 4 = vi w5 0 4 := (by rw [sm_f o6 o10 s12 (by decide)])
            have : vi w5 0 4 = vi w5 0 4 := rfl
            have hz : z2 < vi ws 3 (Int.toNat (vi ws 0 35)) := by
              have hq1 : z1 < vi ws 3 (Int.toNat (vi ws 0 35)) := by rw [← hrb, ← h3]; exact z1b
              omega
            have hk2 : ∀ k : Nat, (k : Int) < n + 1 → vi w25 14 (fr + k).toNat < vi ws 3 (Int.toNat (vi ws 0 35)) := by
              intro k hk1
              rw [e28]
              by_cases hkn : (k : Int) = n
              · rw [if_pos ⟨rfl, by omega⟩]; exact hz
              · rw [if_neg (by omega)]; rw [sm_a o6 o10 s12 TMa_14 (by decide)]; rw [sm_a how o6 s8 TMa_14 (by decide)]; exact hk k (by omega)
            have hj2 : ∀ j : Nat, ((j : Int) < fr ∨ fr + mo ≤ j) → vi w25 14 j = vi ws 14 j := by
              intro j hj1
              rw [e28, if_neg (by omega)]; rw [sm_a o6 o10 s12 TMa_14 (by decide)]; rw [sm_a how o6 s8 TMa_14 (by decide)]; exact hj j hj1
            refine hr_pick (lv' := [(0, .ref r), (1, .ref a), (2, zv (fr)), (3, zv (mo)), (4, zv (n + 1)), (5, zv (0))]) [3, 4, 5, 6, 1, 0] rfl ?_
            exact ih _ _ _ (by omega) o26 (fx_sm_tr (fx_sm_tr (fx_sm_tr sm s8 (by decide)) s12 (by decide)) s27 (by decide)) (by rw [e28, if_neg (by omega)]; rw [sm_f o6 o10 s12 (by decide)]; omega) (by have : vi w25 0 35 = vi w 0 35 := (by rw [e28, if_neg (by omega)]; rw [sm_f o6 o10 s12 (by decide)]; rw [sm_f how o6 s8 (by decide)]); omega) (fun j => (show vi w25 3 j = vi w 3 j from (by rw [e28, if_neg (by omega)]; rw [sm_a o6 o10 s12 TMa_3 (by decide)]; rw [sm_a how o6 s8 TMa_3 (by decide)])).trans (h3 j)) (by omega) (by omega) (by omega) hk2 hj2
          · have c32 : (vi w5 0 8 : Int) = 2 := c32
            refine hr_il C 0 dX12_readWords_53 rfl rfl ?_
            refine hr_iln C 5 dX12_readWords_55 rfl rfl rfl ?_
            refine hr_cmp C 63 dX12_readWords_56 (by decide) ⟨by omega, by omega⟩ ⟨by omega, by omega⟩ rfl (fun c33 => ?_) (fun c33 => ?_)
            · have c33 : (mo : Int) ≤ n + 1 := c33
              refine hr_ic C dX12_readWords_63 rfl ?_
              refine hr_is (lv' := [(5, zv (0)), (4, zv (n + 1)), (6, zv (z2)), (0, .ref r), (1, .ref a), (2, zv (fr)), (3, zv (mo))]) C dX12_readWords_64 (by decide) rfl rfl ?_
              refine hr_goto C 9 dX12_readWords_66 (by decide) ?_
              have : vi w9 0 4 = vi w5 0 4 := (by rw [sm_f o6 o10 s12 (by decide)])
              have : vi w5 0 4 = vi w5 0 4 := rfl
              have hz : z2 < vi ws 3 (Int.toNat (vi ws 0 35)) := by
                have hq1 : z1 < vi ws 3 (Int.toNat (vi ws 0 35)) := by rw [← hrb, ← h3]; exact z1b
                omega
              have hk2 : ∀ k : Nat, (k : Int) < n + 1 → vi w25 14 (fr + k).toNat < vi ws 3 (Int.toNat (vi ws 0 35)) := by
                intro k hk1
                rw [e28]
                by_cases hkn : (k : Int) = n
                · rw [if_pos ⟨rfl, by omega⟩]; exact hz
                · rw [if_neg (by omega)]; rw [sm_a o6 o10 s12 TMa_14 (by decide)]; rw [sm_a how o6 s8 TMa_14 (by decide)]; exact hk k (by omega)
              have hj2 : ∀ j : Nat, ((j : Int) < fr ∨ fr + mo ≤ j) → vi w25 14 j = vi ws 14 j := by
                intro j hj1
                rw [e28, if_neg (by omega)]; rw [sm_a o6 o10 s12 TMa_14 (by decide)]; rw [sm_a how o6 s8 TMa_14 (by decide)]; exact hj j hj1
              refine hr_pick (lv' := [(0, .ref r), (1, .ref a), (2, zv (fr)), (3, zv (mo)), (4, zv (n + 1)), (5, zv (0))]) [3, 4, 5, 6, 1, 0] rfl ?_
              exact ih _ _ _ (by omega) o26 (fx_sm_tr (fx_sm_tr (fx_sm_tr sm s8 (by decide)) s12 (by decide)) s27 (by decide)) (by rw [e28, if_neg (by omega)]; rw [sm_f o6 o10 s12 (by decide)]; omega) (by have : vi w25 0 35 = vi w 0 35 := (by rw [e28, if_neg (by omega)]; rw [sm_f o6 o10 s12 (by decide)]; rw [sm_f how o6 s8 (by decide)]); omega) (fun j => (show vi w25 3 j = vi w 3 j from (by rw [e28, if_neg (by omega)]; rw [sm_a o6 o10 s12 TMa_3 (by decide)]; rw [sm_a how o6 s8 TMa_3 (by decide)])).trans (h3 j)) (by omega) (by omega) (by omega) hk2 hj2
            · have c33 : (n + 1 : Int) < mo := c33
              refine hr_ic C dX12_readWords_59 rfl ?_
              refine hr_goto C 64 dX12_readWords_60 (by decide) ?_
              refine hr_is (lv' := [(5, zv (1)), (4, zv (n + 1)), (6, zv (z2)), (0, .ref r), (1, .ref a), (2, zv (fr)), (3, zv (mo))]) C dX12_readWords_64 (by decide) rfl rfl ?_
              refine hr_goto C 9 dX12_readWords_66 (by decide) ?_
              have : vi w9 0 4 = vi w5 0 4 := (by rw [sm_f o6 o10 s12 (by decide)])
              have : vi w5 0 4 = vi w5 0 4 := rfl
              have hz : z2 < vi ws 3 (Int.toNat (vi ws 0 35)) := by
                have hq1 : z1 < vi ws 3 (Int.toNat (vi ws 0 35)) := by rw [← hrb, ← h3]; exact z1b
                omega
              have hk2 : ∀ k : Nat, (k : Int) < n + 1 → vi w25 14 (fr + k).toNat < vi ws 3 (Int.toNat (vi ws 0 35)) := by
                intro k hk1
                rw [e28]
                by_cases hkn : (k : Int) = n
                · rw [if_pos ⟨rfl, by omega⟩]; exact hz
                · rw [if_neg (by omega)]; rw [sm_a o6 o10 s12 TMa_14 (by decide)]; rw [sm_a how o6 s8 TMa_14 (by decide)]; exact hk k (by omega)
              have hj2 : ∀ j : Nat, ((j : Int) < fr ∨ fr + mo ≤ j) → vi w25 14 j = vi ws 14 j := by
                intro j hj1
                rw [e28, if_neg (by omega)]; rw [sm_a o6 o10 s12 TMa_14 (by decide)]; rw [sm_a how o6 s8 TMa_14 (by decide)]; exact hj j hj1
              refine hr_pick (lv' := [(0, .ref r), (1, .ref a), (2, zv (fr)), (3, zv (mo)), (4, zv (n + 1)), (5, zv (1))]) [3, 4, 5, 6, 1, 0] rfl ?_
              exact ih _ _ _ (by omega) o26 (fx_sm_tr (fx_sm_tr (fx_sm_tr sm s8 (by decide)) s12 (by decide)) s27 (by decide)) (by rw [e28, if_neg (by omega)]; rw [sm_f o6 o10 s12 (by decide)]; omega) (by have : vi w25 0 35 = vi w 0 35 := (by rw [e28, if_neg (by omega)]; rw [sm_f o6 o10 s12 (by decide)]; rw [sm_f how o6 s8 (by decide)]); omega) (fun j => (show vi w25 3 j = vi w 3 j from (by rw [e28, if_neg (by omega)]; rw [sm_a o6 o10 s12 TMa_3 (by decide)]; rw [sm_a how o6 s8 TMa_3 (by decide)])).trans (h3 j)) (by omega) (by omega) (by omega) hk2 hj2
        · obtain ⟨v34, rfl, hv35⟩ := hrv14
          obtain ⟨z36, rfl, b37, b38, b39⟩ := ok_iz hv35
          simp only [rg] at b39
          obtain rfl : z36 = 0 := by omega
          have hf40 := fs_t hnd o10 hr0 rfl hfs16
          refine hr_norm (st' := [zv (0)]) rfl ?_
          have : vi w9 0 4 = vi w5 0 4 := (by rw [sm_f o6 o10 s12 (by decide)])
          have : vi w5 0 4 = vi w5 0 4 := rfl
          refine hr_if C 34 dX12_readWords_28 (by decide) ⟨by omega, by omega⟩ rfl (fun c41 => absurd (show ¬ (0 : Int) = 0 from c41) (by omega)) (fun c41 => ?_)
          have c41 : (0 : Int) = 0 := c41
          refine hr_il C 5 dX12_readWords_31 rfl rfl ?_
          exact hr_iret C hlocks hr dX12_readWords_33 ⟨(fx_sm_tr (fx_sm_tr sm s8 (by decide)) s12 (by decide)), (by rw [sm_f o6 o10 s12 (by decide)]; omega), _, rfl, by omega, by omega, fun k hk1 => by rw [sm_a o6 o10 s12 TMa_14 (by decide)]; rw [sm_a how o6 s8 TMa_14 (by decide)]; exact hk k hk1, fun j hj1 => (show vi w9 14 j = vi w 14 j from (by rw [sm_a o6 o10 s12 TMa_14 (by decide)]; rw [sm_a how o6 s8 TMa_14 (by decide)])).trans (hj j hj1)⟩
  refine hr_ic C dX12_readWords_0 rfl ?_
  refine hr_is (lv' := [(4, zv (0)), (0, .ref r), (1, .ref a), (2, zv (fr)), (3, zv (mo))]) C dX12_readWords_1 (by decide) rfl rfl ?_
  refine hr_aln C 1 dX12_readWords_3 rfl rfl rfl ?_
  refine hr_cV (As := []) (rest := []) C (hM_fx (km293 h)) ⟨by decide, by decide⟩ iV_X12_isGood g_X12_241 TM0 hr0 dX12_readWords_4 rfl rfl (Nat.le_of_ble_eq_true rfl) rfl ⟨(ty_cons (ok_r hr0 (by decide) (by decide)) ty_nil), ⟨_, rfl⟩⟩ (fun w1 rv o2 q3 => ?_)
  obtain ⟨s4, po, hpo5, hrv6, hty7, rt, hfs8⟩ := q3
  replace s4 : fx_sm (gsM, TM, cy, fun _ => True) [] ws w1 := s4
  simp only [km293_c, List.mem_cons, List.not_mem_nil, or_false] at hpo5
  rcases hpo5 with rfl | rfl
  · obtain ⟨v9, rfl, hv10⟩ := hrv6
    obtain ⟨z11, rfl, b12, b13, b14⟩ := ok_iz hv10
    simp only [rg] at b14
    obtain rfl : z11 = 1 := by omega
    have hf15 := fs_t hnd o2 hr0 rfl hfs8
    refine hr_norm (st' := [zv (1)]) rfl ?_
    refine hr_is (lv' := [(5, zv (1)), (4, zv (0)), (0, .ref r), (1, .ref a), (2, zv (fr)), (3, zv (mo))]) C dX12_readWords_7 (by decide) rfl rfl ?_
    refine hr_pick (lv' := [(0, .ref r), (1, .ref a), (2, zv (fr)), (3, zv (mo)), (4, zv (0)), (5, zv (1))]) [2, 3, 4, 5, 1, 0] rfl ?_
    exact loop _ _ _ _ (Nat.lt_succ_self _) o2 (fx_sm_tr fx_sm_refl s4 (by decide)) (by rw [sm_f hwo o2 s4 (by decide)]; omega) (by rw [sm_f hwo o2 s4 (by decide)]) (fun j => (by rw [sm_a hwo o2 s4 TMa_3 (by decide)])) (by omega) (by omega) (by omega) (fun k hk1 => by omega) (fun j _ => (by rw [sm_a hwo o2 s4 TMa_14 (by decide)]))
  · obtain ⟨v16, rfl, hv17⟩ := hrv6
    obtain ⟨z18, rfl, b19, b20, b21⟩ := ok_iz hv17
    simp only [rg] at b21
    obtain rfl : z18 = 0 := by omega
    have hf22 := fs_t hnd o2 hr0 rfl hfs8
    refine hr_norm (st' := [zv (0)]) rfl ?_
    refine hr_is (lv' := [(5, zv (0)), (4, zv (0)), (0, .ref r), (1, .ref a), (2, zv (fr)), (3, zv (mo))]) C dX12_readWords_7 (by decide) rfl rfl ?_
    refine hr_pick (lv' := [(0, .ref r), (1, .ref a), (2, zv (fr)), (3, zv (mo)), (4, zv (0)), (5, zv (0))]) [2, 3, 4, 5, 1, 0] rfl ?_
    exact loop _ _ _ _ (Nat.lt_succ_self _) o2 (fx_sm_tr fx_sm_refl s4 (by decide)) (by rw [sm_f hwo o2 s4 (by decide)]; omega) (by rw [sm_f hwo o2 s4 (by decide)]) (fun j => (by rw [sm_a hwo o2 s4 TMa_3 (by decide)])) (by omega) (by omega) (by omega) (fun k hk1 => by omega) (fun j _ => (by rw [sm_a hwo o2 s4 TMa_14 (by decide)]))
