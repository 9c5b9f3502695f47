theorem dX11_mended_1 : decode cX11_mended 1 = .ok (.getfield 56, 3) := by decide +kernel
theorem dX11_mended_4 : decode cX11_mended 4 = .ok (.invokevirtual 95, 3) := by decide +kernel
theorem dX11_mended_7 : decode cX11_mended 7 = .ok (.aload_n 0, 1) := by decide +kernel
theorem dX11_mended_8 : decode cX11_mended 8 = .ok (.iload_n 1, 1) := by decide +kernel
theorem dX11_mended_9 : decode cX11_mended 9 = .ok (.invokevirtual 127, 3) := by decide +kernel
theorem dX11_mended_12 : decode cX11_mended 12 = .ok (.astore_n 3, 1) := by decide +kernel
theorem dX11_mended_13 : decode cX11_mended 13 = .ok (.aload_n 3, 1) := by decide +kernel
theorem dX11_mended_14 : decode cX11_mended 14 = .ok (.ifnull 13, 3) := by decide +kernel
theorem dX11_mended_27 : decode cX11_mended 27 = .ok (.iconst (-1), 1) := by decide +kernel
theorem dX11_mended_28 : decode cX11_mended 28 = .ok (.ireturn, 1) := by decide +kernel
theorem dX11_safe_0 : decode cX11_safe 0 = .ok (.aload_n 0, 1) := by decide +kernel
theorem dX11_safe_1 : decode cX11_safe 1 = .ok (.getfield 40, 3) := by decide +kernel
theorem dX11_safe_4 : decode cX11_safe 4 = .ok (.aload_n 0, 1) := by decide +kernel
theorem dX11_safe_5 : decode cX11_safe 5 = .ok (.getfield 66, 3) := by decide +kernel
theorem dX11_safe_8 : decode cX11_safe 8 = .ok (.aload_n 0, 1) := by decide +kernel
theorem dX11_safe_9 : decode cX11_safe 9 = .ok (.getfield 19, 3) := by decide +kernel
theorem dX11_safe_12 : decode cX11_safe 12 = .ok (.getfield 114, 3) := by decide +kernel
theorem dX11_safe_15 : decode cX11_safe 15 = .ok (.getfield 118, 3) := by decide +kernel
theorem dX11_safe_18 : decode cX11_safe 18 = .ok (.invokevirtual 256, 3) := by decide +kernel
theorem dX11_safe_21 : decode cX11_safe 21 = .ok (.ireturn, 1) := by decide +kernel
theorem dX11_sittings_0 : decode cX11_sittings 0 = .ok (.aload_n 0, 1) := by decide +kernel
theorem dX11_sittings_1 : decode cX11_sittings 1 = .ok (.getfield 56, 3) := by decide +kernel
theorem dX11_sittings_4 : decode cX11_sittings 4 = .ok (.invokevirtual 95, 3) := by decide +kernel
theorem dX11_sittings_7 : decode cX11_sittings 7 = .ok (.aload_n 0, 1) := by decide +kernel
theorem dX11_sittings_8 : decode cX11_sittings 8 = .ok (.getfield 47, 3) := by decide +kernel
theorem dX11_sittings_11 : decode cX11_sittings 11 = .ok (.invokevirtual 260, 3) := by decide +kernel
theorem dX11_sittings_14 : decode cX11_sittings 14 = .ok (.istore_n 1, 1) := by decide +kernel
theorem dX11_sittings_15 : decode cX11_sittings 15 = .ok (.iload_n 1, 1) := by decide +kernel
theorem dX11_sittings_16 : decode cX11_sittings 16 = .ok (.ifCond .le 17, 3) := by decide +kernel
theorem dX11_sittings_19 : decode cX11_sittings 19 = .ok (.aload_n 0, 1) := by decide +kernel
theorem dX11_sittings_20 : decode cX11_sittings 20 = .ok (.getfield 56, 3) := by decide +kernel
theorem dX11_sittings_23 : decode cX11_sittings 23 = .ok (.aload_n 0, 1) := by decide +kernel
theorem dX11_sittings_24 : decode cX11_sittings 24 = .ok (.getfield 47, 3) := by decide +kernel
theorem dX11_sittings_27 : decode cX11_sittings 27 = .ok (.getfield 263, 3) := by decide +kernel
theorem dX11_sittings_30 : decode cX11_sittings 30 = .ok (.invokevirtual 266, 3) := by decide +kernel
theorem dX11_sittings_33 : decode cX11_sittings 33 = .ok (.iload_n 1, 1) := by decide +kernel
theorem dX11_sittings_34 : decode cX11_sittings 34 = .ok (.ireturn, 1) := by decide +kernel
theorem dX11_comes_0 : decode cX11_comes 0 = .ok (.aload_n 0, 1) := by decide +kernel
theorem dX11_comes_1 : decode cX11_comes 1 = .ok (.iload_n 1, 1) := by decide +kernel
theorem dX11_comes_2 : decode cX11_comes 2 = .ok (.invokevirtual 127, 3) := by decide +kernel
theorem dX11_comes_5 : decode cX11_comes 5 = .ok (.ifnonnull 7, 3) := by decide +kernel
theorem dX11_comes_8 : decode cX11_comes 8 = .ok (.iconst (-1), 1) := by decide +kernel
theorem dX11_comes_9 : decode cX11_comes 9 = .ok (.goto 11, 3) := by decide +kernel
theorem dX11_comes_20 : decode cX11_comes 20 = .ok (.ireturn, 1) := by decide +kernel
theorem dX11_lies_0 : decode cX11_lies 0 = .ok (.aload_n 0, 1) := by decide +kernel
theorem dX11_lies_1 : decode cX11_lies 1 = .ok (.getfield 56, 3) := by decide +kernel
theorem dX11_lies_4 : decode cX11_lies 4 = .ok (.iload_n 1, 1) := by decide +kernel
theorem dX11_lies_5 : decode cX11_lies 5 = .ok (.invokevirtual 123, 3) := by decide +kernel
theorem dX11_lies_8 : decode cX11_lies 8 = .ok (.ireturn, 1) := by decide +kernel
theorem dX11_hint_0 : decode cX11_hint 0 = .ok (.aload_n 0, 1) := by decide +kernel
theorem dX11_hint_1 : decode cX11_hint 1 = .ok (.iload_n 1, 1) := by decide +kernel
theorem dX11_hint_2 : decode cX11_hint 2 = .ok (.invokevirtual 127, 3) := by decide +kernel
theorem dX11_hint_5 : decode cX11_hint 5 = .ok (.ifnull 16, 3) := by decide +kernel
theorem dX11_hint_21 : decode cX11_hint 21 = .ok (.iconst (-1), 1) := by decide +kernel
theorem dX11_hint_22 : decode cX11_hint 22 = .ok (.ireturn, 1) := by decide +kernel
theorem dX11_untell_0 : decode cX11_untell 0 = .ok (.aload_n 0, 1) := by decide +kernel
theorem dX11_untell_1 : decode cX11_untell 1 = .ok (.getfield 47, 3) := by decide +kernel
theorem dX11_untell_4 : decode cX11_untell 4 = .ok (.iload_n 1, 1) := by decide +kernel
theorem dX11_untell_5 : decode cX11_untell 5 = .ok (.invokevirtual 276, 3) := by decide +kernel
theorem dX11_untell_8 : decode cX11_untell 8 = .ok (.ireturn, 1) := by decide +kernel
theorem dX11_later_0 : decode cX11_later 0 = .ok (.iload_n 1, 1) := by decide +kernel
theorem dX11_later_1 : decode cX11_later 1 = .ok (.ifCond .lt 10, 3) := by decide +kernel
theorem dX11_later_4 : decode cX11_later 4 = .ok (.iload_n 1, 1) := by decide +kernel
theorem dX11_later_5 : decode cX11_later 5 = .ok (.sipush 1000, 3) := by decide +kernel
theorem dX11_later_8 : decode cX11_later 8 = .ok (.if_icmp .le 7, 3) := by decide +kernel
theorem dX11_later_11 : decode cX11_later 11 = .ok (.iconst (-1), 1) := by decide +kernel
theorem dX11_later_12 : decode cX11_later 12 = .ok (.goto 11, 3) := by decide +kernel
theorem dX11_later_15 : decode cX11_later 15 = .ok (.aload_n 0, 1) := by decide +kernel
theorem dX11_later_16 : decode cX11_later 16 = .ok (.getfield 47, 3) := by decide +kernel
theorem dX11_later_19 : decode cX11_later 19 = .ok (.iload_n 1, 1) := by decide +kernel
theorem dX11_later_20 : decode cX11_later 20 = .ok (.invokevirtual 279, 3) := by decide +kernel
theorem dX11_later_23 : decode cX11_later 23 = .ok (.ireturn, 1) := by decide +kernel
theorem dX11_seats_0 : decode cX11_seats 0 = .ok (.aload_n 0, 1) := by decide +kernel
theorem dX11_seats_1 : decode cX11_seats 1 = .ok (.getfield 47, 3) := by decide +kernel
theorem dX11_seats_4 : decode cX11_seats 4 = .ok (.iload_n 1, 1) := by decide +kernel
theorem dX11_seats_5 : decode cX11_seats 5 = .ok (.invokevirtual 282, 3) := by decide +kernel
theorem dX11_seats_8 : decode cX11_seats 8 = .ok (.ireturn, 1) := by decide +kernel
theorem dX11_sure_0 : decode cX11_sure 0 = .ok (.aload_n 0, 1) := by decide +kernel
theorem dX11_sure_1 : decode cX11_sure 1 = .ok (.iload_n 1, 1) := by decide +kernel
theorem dX11_sure_2 : decode cX11_sure 2 = .ok (.invokevirtual 127, 3) := by decide +kernel
theorem dX11_sure_5 : decode cX11_sure 5 = .ok (.ifnull 14, 3) := by decide +kernel
theorem dX11_sure_19 : decode cX11_sure 19 = .ok (.iconst (-1), 1) := by decide +kernel
theorem dX11_sure_20 : decode cX11_sure 20 = .ok (.ireturn, 1) := by decide +kernel
theorem dX11_ask_0 : decode cX11_ask 0 = .ok (.iload_n 1, 1) := by decide +kernel
theorem dX11_ask_1 : decode cX11_ask 1 = .ok (.invokestatic 193, 3) := by decide +kernel
theorem dX11_ask_4 : decode cX11_ask 4 = .ok (.ifCond .eq 24, 3) := by decide +kernel
theorem dX11_ask_7 : decode cX11_ask 7 = .ok (.aload_n 0, 1) := by decide +kernel
theorem dX11_ask_8 : decode cX11_ask 8 = .ok (.getfield 66, 3) := by decide +kernel
theorem dX11_ask_11 : decode cX11_ask 11 = .ok (.getfield 105, 3) := by decide +kernel
theorem dX11_ask_14 : decode cX11_ask 14 = .ok (.ifCond .eq 14, 3) := by decide +kernel
theorem dX11_ask_28 : decode cX11_ask 28 = .ok (.iconst (-1), 1) := by decide +kernel
theorem dX11_ask_29 : decode cX11_ask 29 = .ok (.ireturn, 1) := by decide +kernel
theorem dX11_image_0 : decode cX11_image 0 = .ok (.aload_n 0, 1) := by decide +kernel
theorem dX11_image_1 : decode cX11_image 1 = .ok (.getfield 19, 3) := by decide +kernel
theorem dX11_image_4 : decode cX11_image 4 = .ok (.iload_n 1, 1) := by decide +kernel
theorem dX11_image_5 : decode cX11_image 5 = .ok (.invokevirtual 294, 3) := by decide +kernel
theorem dX11_image_8 : decode cX11_image 8 = .ok (.ireturn, 1) := by decide +kernel
theorem dX11_back_0 : decode cX11_back 0 = .ok (.aload_n 0, 1) := by decide +kernel
theorem dX11_back_1 : decode cX11_back 1 = .ok (.getfield 19, 3) := by decide +kernel
theorem dX11_back_4 : decode cX11_back 4 = .ok (.iload_n 1, 1) := by decide +kernel
theorem dX11_back_5 : decode cX11_back 5 = .ok (.invokevirtual 297, 3) := by decide +kernel
theorem dX11_back_8 : decode cX11_back 8 = .ok (.ireturn, 1) := by decide +kernel
theorem dX11_about_0 : decode cX11_about 0 = .ok (.iload_n 1, 1) := by decide +kernel
theorem dX11_about_1 : decode cX11_about 1 = .ok (.tableswitch 189 0 12 #[67, 75, 83, 97, 108, 119, 127, 135, 143, 151, 159, 170, 181], 67) := by decide +kernel
theorem dX11_about_68 : decode cX11_about 68 = .ok (.aload_n 0, 1) := by decide +kernel
theorem dX11_about_69 : decode cX11_about 69 = .ok (.getfield 66, 3) := by decide +kernel
theorem dX11_about_72 : decode cX11_about 72 = .ok (.getfield 105, 3) := by decide +kernel
theorem dX11_about_75 : decode cX11_about 75 = .ok (.ireturn, 1) := by decide +kernel
theorem dX11_about_76 : decode cX11_about 76 = .ok (.aload_n 0, 1) := by decide +kernel
theorem dX11_about_77 : decode cX11_about 77 = .ok (.getfield 66, 3) := by decide +kernel
theorem dX11_about_80 : decode cX11_about 80 = .ok (.getfield 300, 3) := by decide +kernel
theorem dX11_about_83 : decode cX11_about 83 = .ok (.ireturn, 1) := by decide +kernel
theorem dX11_about_84 : decode cX11_about 84 = .ok (.aload_n 0, 1) := by decide +kernel
theorem dX11_about_85 : decode cX11_about 85 = .ok (.getfield 19, 3) := by decide +kernel
theorem dX11_about_88 : decode cX11_about 88 = .ok (.getfield 114, 3) := by decide +kernel
theorem dX11_about_91 : decode cX11_about 91 = .ok (.getfield 118, 3) := by decide +kernel
theorem dX11_about_94 : decode cX11_about 94 = .ok (.getfield 134, 3) := by decide +kernel
theorem dX11_about_97 : decode cX11_about 97 = .ok (.ireturn, 1) := by decide +kernel
theorem dX11_about_98 : decode cX11_about 98 = .ok (.aload_n 0, 1) := by decide +kernel
theorem dX11_about_99 : decode cX11_about 99 = .ok (.getfield 19, 3) := by decide +kernel
theorem dX11_about_102 : decode cX11_about 102 = .ok (.getfield 114, 3) := by decide +kernel
theorem dX11_about_105 : decode cX11_about 105 = .ok (.getfield 303, 3) := by decide +kernel
theorem dX11_about_108 : decode cX11_about 108 = .ok (.ireturn, 1) := by decide +kernel
theorem dX11_about_109 : decode cX11_about 109 = .ok (.aload_n 0, 1) := by decide +kernel
theorem dX11_about_110 : decode cX11_about 110 = .ok (.getfield 19, 3) := by decide +kernel
theorem dX11_about_113 : decode cX11_about 113 = .ok (.getfield 114, 3) := by decide +kernel
theorem dX11_about_116 : decode cX11_about 116 = .ok (.getfield 306, 3) := by decide +kernel
theorem dX11_about_119 : decode cX11_about 119 = .ok (.ireturn, 1) := by decide +kernel
theorem dX11_about_120 : decode cX11_about 120 = .ok (.aload_n 0, 1) := by decide +kernel
theorem dX11_about_121 : decode cX11_about 121 = .ok (.getfield 66, 3) := by decide +kernel
theorem dX11_about_124 : decode cX11_about 124 = .ok (.getfield 309, 3) := by decide +kernel
theorem dX11_about_127 : decode cX11_about 127 = .ok (.ireturn, 1) := by decide +kernel
theorem dX11_about_128 : decode cX11_about 128 = .ok (.aload_n 0, 1) := by decide +kernel
theorem dX11_about_129 : decode cX11_about 129 = .ok (.getfield 19, 3) := by decide +kernel
theorem dX11_about_132 : decode cX11_about 132 = .ok (.invokevirtual 312, 3) := by decide +kernel
theorem dX11_about_135 : decode cX11_about 135 = .ok (.ireturn, 1) := by decide +kernel
theorem dX11_about_136 : decode cX11_about 136 = .ok (.aload_n 0, 1) := by decide +kernel
theorem dX11_about_137 : decode cX11_about 137 = .ok (.getfield 19, 3) := by decide +kernel
theorem dX11_about_140 : decode cX11_about 140 = .ok (.invokevirtual 315, 3) := by decide +kernel
theorem dX11_about_143 : decode cX11_about 143 = .ok (.ireturn, 1) := by decide +kernel
theorem dX11_about_144 : decode cX11_about 144 = .ok (.aload_n 0, 1) := by decide +kernel
theorem dX11_about_145 : decode cX11_about 145 = .ok (.getfield 47, 3) := by decide +kernel
theorem dX11_about_148 : decode cX11_about 148 = .ok (.getfield 318, 3) := by decide +kernel
theorem dX11_about_151 : decode cX11_about 151 = .ok (.ireturn, 1) := by decide +kernel
theorem dX11_about_152 : decode cX11_about 152 = .ok (.aload_n 0, 1) := by decide +kernel
theorem dX11_about_153 : decode cX11_about 153 = .ok (.getfield 47, 3) := by decide +kernel
theorem dX11_about_156 : decode cX11_about 156 = .ok (.getfield 321, 3) := by decide +kernel
theorem dX11_about_159 : decode cX11_about 159 = .ok (.ireturn, 1) := by decide +kernel
theorem dX11_about_160 : decode cX11_about 160 = .ok (.aload_n 0, 1) := by decide +kernel
theorem dX11_about_161 : decode cX11_about 161 = .ok (.getfield 10, 3) := by decide +kernel
theorem dX11_about_164 : decode cX11_about 164 = .ok (.getfield 70, 3) := by decide +kernel
theorem dX11_about_167 : decode cX11_about 167 = .ok (.getfield 83, 3) := by decide +kernel
theorem dX11_about_170 : decode cX11_about 170 = .ok (.ireturn, 1) := by decide +kernel
theorem dX11_about_171 : decode cX11_about 171 = .ok (.aload_n 0, 1) := by decide +kernel
theorem dX11_about_172 : decode cX11_about 172 = .ok (.getfield 66, 3) := by decide +kernel
theorem dX11_about_175 : decode cX11_about 175 = .ok (.getfield 324, 3) := by decide +kernel
theorem dX11_about_178 : decode cX11_about 178 = .ok (.getfield 328, 3) := by decide +kernel
theorem dX11_about_181 : decode cX11_about 181 = .ok (.ireturn, 1) := by decide +kernel
theorem dX11_about_182 : decode cX11_about 182 = .ok (.aload_n 0, 1) := by decide +kernel
theorem dX11_about_183 : decode cX11_about 183 = .ok (.getfield 56, 3) := by decide +kernel
theorem dX11_about_186 : decode cX11_about 186 = .ok (.getfield 134, 3) := by decide +kernel
theorem dX11_about_189 : decode cX11_about 189 = .ok (.ireturn, 1) := by decide +kernel
theorem dX11_about_190 : decode cX11_about 190 = .ok (.iconst (-1), 1) := by decide +kernel
theorem dX11_about_191 : decode cX11_about 191 = .ok (.ireturn, 1) := by decide +kernel
theorem dX11_layShortest_0 : decode cX11_layShortest 0 = .ok (.aload_n 0, 1) := by decide +kernel
theorem dX11_layShortest_1 : decode cX11_layShortest 1 = .ok (.getfield 56, 3) := by decide +kernel
theorem dX11_layShortest_4 : decode cX11_layShortest 4 = .ok (.invokevirtual 95, 3) := by decide +kernel
theorem dX11_layShortest_7 : decode cX11_layShortest 7 = .ok (.aload_n 1, 1) := by decide +kernel
theorem dX11_layShortest_8 : decode cX11_layShortest 8 = .ok (.ifnull 11, 3) := by decide +kernel
theorem dX11_layShortest_19 : decode cX11_layShortest 19 = .ok (.iconst (-1), 1) := by decide +kernel
theorem dX11_layShortest_20 : decode cX11_layShortest 20 = .ok (.ireturn, 1) := by decide +kernel
theorem dX11_slipOf_0 : decode cX11_slipOf 0 = .ok (.aload_n 0, 1) := by decide +kernel
theorem dX11_slipOf_1 : decode cX11_slipOf 1 = .ok (.getfield 66, 3) := by decide +kernel
theorem dX11_slipOf_4 : decode cX11_slipOf 4 = .ok (.iload_n 1, 1) := by decide +kernel
theorem dX11_slipOf_5 : decode cX11_slipOf 5 = .ok (.invokevirtual 336, 3) := by decide +kernel
theorem dX11_slipOf_8 : decode cX11_slipOf 8 = .ok (.areturn, 1) := by decide +kernel
theorem dX11_lineOf_0 : decode cX11_lineOf 0 = .ok (.iload_n 1, 1) := by decide +kernel
theorem dX11_lineOf_1 : decode cX11_lineOf 1 = .ok (.iconst (-1), 1) := by decide +kernel
theorem dX11_lineOf_2 : decode cX11_lineOf 2 = .ok (.if_icmp .ne 16, 3) := by decide +kernel
theorem dX11_lineOf_5 : decode cX11_lineOf 5 = .ok (.aload_n 0, 1) := by decide +kernel
theorem dX11_lineOf_6 : decode cX11_lineOf 6 = .ok (.getfield 19, 3) := by decide +kernel
theorem dX11_lineOf_9 : decode cX11_lineOf 9 = .ok (.getfield 114, 3) := by decide +kernel
theorem dX11_lineOf_12 : decode cX11_lineOf 12 = .ok (.getfield 118, 3) := by decide +kernel
theorem dX11_lineOf_15 : decode cX11_lineOf 15 = .ok (.goto 11, 3) := by decide +kernel
theorem dX11_lineOf_18 : decode cX11_lineOf 18 = .ok (.aload_n 0, 1) := by decide +kernel
theorem dX11_lineOf_19 : decode cX11_lineOf 19 = .ok (.getfield 66, 3) := by decide +kernel
theorem dX11_lineOf_22 : decode cX11_lineOf 22 = .ok (.iload_n 1, 1) := by decide +kernel
theorem dX11_lineOf_23 : decode cX11_lineOf 23 = .ok (.invokevirtual 336, 3) := by decide +kernel
theorem dX11_lineOf_26 : decode cX11_lineOf 26 = .ok (.areturn, 1) := by decide +kernel
theorem dX11_canLeaveOut_0 : decode cX11_canLeaveOut 0 = .ok (.iload_n 1, 1) := by decide +kernel
theorem dX11_canLeaveOut_1 : decode cX11_canLeaveOut 1 = .ok (.ifCond .lt 29, 3) := by decide +kernel
theorem dX11_canLeaveOut_4 : decode cX11_canLeaveOut 4 = .ok (.iload_n 1, 1) := by decide +kernel
theorem dX11_canLeaveOut_5 : decode cX11_canLeaveOut 5 = .ok (.iconst 4, 1) := by decide +kernel
theorem dX11_canLeaveOut_6 : decode cX11_canLeaveOut 6 = .ok (.if_icmp .gt 24, 3) := by decide +kernel
theorem dX11_canLeaveOut_9 : decode cX11_canLeaveOut 9 = .ok (.iload_n 1, 1) := by decide +kernel
theorem dX11_canLeaveOut_10 : decode cX11_canLeaveOut 10 = .ok (.aload_n 0, 1) := by decide +kernel
theorem dX11_canLeaveOut_11 : decode cX11_canLeaveOut 11 = .ok (.getfield 19, 3) := by decide +kernel
theorem dX11_canLeaveOut_14 : decode cX11_canLeaveOut 14 = .ok (.getfield 114, 3) := by decide +kernel
theorem dX11_canLeaveOut_17 : decode cX11_canLeaveOut 17 = .ok (.getfield 118, 3) := by decide +kernel
theorem dX11_canLeaveOut_20 : decode cX11_canLeaveOut 20 = .ok (.getfield 134, 3) := by decide +kernel
theorem dX11_canLeaveOut_23 : decode cX11_canLeaveOut 23 = .ok (.if_icmp .ge 7, 3) := by decide +kernel
theorem dX11_canLeaveOut_30 : decode cX11_canLeaveOut 30 = .ok (.iconst 0, 1) := by decide +kernel
theorem dX11_canLeaveOut_31 : decode cX11_canLeaveOut 31 = .ok (.ireturn, 1) := by decide +kernel
theorem dX11_isRule_0 : decode cX11_isRule 0 = .ok (.iload_n 0, 1) := by decide +kernel
theorem dX11_isRule_1 : decode cX11_isRule 1 = .ok (.ifCond .lt 12, 3) := by decide +kernel
theorem dX11_isRule_4 : decode cX11_isRule 4 = .ok (.iload_n 0, 1) := by decide +kernel
theorem dX11_isRule_5 : decode cX11_isRule 5 = .ok (.iconst 3, 1) := by decide +kernel
theorem dX11_isRule_6 : decode cX11_isRule 6 = .ok (.if_icmp .ge 7, 3) := by decide +kernel
theorem dX11_isRule_9 : decode cX11_isRule 9 = .ok (.iconst 1, 1) := by decide +kernel
theorem dX11_isRule_10 : decode cX11_isRule 10 = .ok (.goto 4, 3) := by decide +kernel
theorem dX11_isRule_13 : decode cX11_isRule 13 = .ok (.iconst 0, 1) := by decide +kernel
theorem dX11_isRule_14 : decode cX11_isRule 14 = .ok (.ireturn, 1) := by decide +kernel
theorem dX11_isPart_0 : decode cX11_isPart 0 = .ok (.iload_n 0, 1) := by decide +kernel
theorem dX11_isPart_1 : decode cX11_isPart 1 = .ok (.ifCond .eq 8, 3) := by decide +kernel
theorem dX11_isPart_4 : decode cX11_isPart 4 = .ok (.iload_n 0, 1) := by decide +kernel
theorem dX11_isPart_5 : decode cX11_isPart 5 = .ok (.iconst 1, 1) := by decide +kernel
theorem dX11_isPart_6 : decode cX11_isPart 6 = .ok (.if_icmp .ne 7, 3) := by decide +kernel
theorem dX11_isPart_9 : decode cX11_isPart 9 = .ok (.iconst 1, 1) := by decide +kernel
theorem dX11_isPart_10 : decode cX11_isPart 10 = .ok (.goto 4, 3) := by decide +kernel
theorem dX11_isPart_13 : decode cX11_isPart 13 = .ok (.iconst 0, 1) := by decide +kernel
theorem dX11_isPart_14 : decode cX11_isPart 14 = .ok (.ireturn, 1) := by decide +kernel
theorem dX12_init_0 : decode cX12_init 0 = .ok (.aload_n 0, 1) := by decide +kernel
theorem dX12_init_1 : decode cX12_init 1 = .ok (.invokespecial 1, 3) := by decide +kernel
theorem dX12_init_4 : decode cX12_init 4 = .ok (.aload_n 0, 1) := by decide +kernel
theorem dX12_init_5 : decode cX12_init 5 = .ok (.sipush 1620, 3) := by decide +kernel
theorem dX12_init_8 : decode cX12_init 8 = .ok (.newarray .byte, 2) := by decide +kernel
theorem dX12_init_10 : decode cX12_init 10 = .ok (.putfield 7, 3) := by decide +kernel
theorem dX12_init_13 : decode cX12_init 13 = .ok (.aload_n 0, 1) := by decide +kernel
theorem dX12_init_14 : decode cX12_init 14 = .ok (.sipush 1600, 3) := by decide +kernel
theorem dX12_init_17 : decode cX12_init 17 = .ok (.newarray .byte, 2) := by decide +kernel
theorem dX12_init_19 : decode cX12_init 19 = .ok (.putfield 13, 3) := by decide +kernel
theorem dX12_init_22 : decode cX12_init 22 = .ok (.aload_n 0, 1) := by decide +kernel
theorem dX12_init_23 : decode cX12_init 23 = .ok (.iconst (-1), 1) := by decide +kernel
theorem dX12_init_24 : decode cX12_init 24 = .ok (.putfield 16, 3) := by decide +kernel
theorem dX12_init_27 : decode cX12_init 27 = .ok (.aload_n 0, 1) := by decide +kernel
theorem dX12_init_28 : decode cX12_init 28 = .ok (.iconst 2, 1) := by decide +kernel
theorem dX12_init_29 : decode cX12_init 29 = .ok (.newarray .int, 2) := by decide +kernel
theorem dX12_init_31 : decode cX12_init 31 = .ok (.putfield 20, 3) := by decide +kernel
theorem dX12_init_34 : decode cX12_init 34 = .ok (.aload_n 0, 1) := by decide +kernel
theorem dX12_init_35 : decode cX12_init 35 = .ok (.iconst 2, 1) := by decide +kernel
theorem dX12_init_36 : decode cX12_init 36 = .ok (.newarray .int, 2) := by decide +kernel
theorem dX12_init_38 : decode cX12_init 38 = .ok (.putfield 24, 3) := by decide +kernel
theorem dX12_init_41 : decode cX12_init 41 = .ok (.aload_n 0, 1) := by decide +kernel
theorem dX12_init_42 : decode cX12_init 42 = .ok (.iconst 2, 1) := by decide +kernel
theorem dX12_init_43 : decode cX12_init 43 = .ok (.newarray .int, 2) := by decide +kernel
theorem dX12_init_45 : decode cX12_init 45 = .ok (.putfield 27, 3) := by decide +kernel
theorem dX12_init_48 : decode cX12_init 48 = .ok (.aload_n 0, 1) := by decide +kernel
theorem dX12_init_49 : decode cX12_init 49 = .ok (.iconst 2, 1) := by decide +kernel
theorem dX12_init_50 : decode cX12_init 50 = .ok (.newarray .int, 2) := by decide +kernel
theorem dX12_init_52 : decode cX12_init 52 = .ok (.putfield 30, 3) := by decide +kernel
theorem dX12_init_55 : decode cX12_init 55 = .ok (.aload_n 0, 1) := by decide +kernel
theorem dX12_init_56 : decode cX12_init 56 = .ok (.iconst 2, 1) := by decide +kernel
theorem dX12_init_57 : decode cX12_init 57 = .ok (.newarray .int, 2) := by decide +kernel
theorem dX12_init_59 : decode cX12_init 59 = .ok (.putfield 33, 3) := by decide +kernel
theorem dX12_init_62 : decode cX12_init 62 = .ok (.aload_n 0, 1) := by decide +kernel
theorem dX12_init_63 : decode cX12_init 63 = .ok (.iconst 2, 1) := by decide +kernel
theorem dX12_init_64 : decode cX12_init 64 = .ok (.newarray .int, 2) := by decide +kernel
theorem dX12_init_66 : decode cX12_init 66 = .ok (.putfield 36, 3) := by decide +kernel
theorem dX12_init_69 : decode cX12_init 69 = .ok (.aload_n 0, 1) := by decide +kernel
theorem dX12_init_70 : decode cX12_init 70 = .ok (.bipush 18, 2) := by decide +kernel
theorem dX12_init_72 : decode cX12_init 72 = .ok (.newarray .int, 2) := by decide +kernel
theorem dX12_init_74 : decode cX12_init 74 = .ok (.putfield 39, 3) := by decide +kernel
theorem dX12_init_77 : decode cX12_init 77 = .ok (.aload_n 0, 1) := by decide +kernel
theorem dX12_init_78 : decode cX12_init 78 = .ok (.sipush 162, 3) := by decide +kernel
theorem dX12_init_81 : decode cX12_init 81 = .ok (.newarray .int, 2) := by decide +kernel
theorem dX12_init_83 : decode cX12_init 83 = .ok (.putfield 42, 3) := by decide +kernel
theorem dX12_init_86 : decode cX12_init 86 = .ok (.aload_n 0, 1) := by decide +kernel
theorem dX12_init_87 : decode cX12_init 87 = .ok (.bipush 18, 2) := by decide +kernel
theorem dX12_init_89 : decode cX12_init 89 = .ok (.newarray .int, 2) := by decide +kernel
theorem dX12_init_91 : decode cX12_init 91 = .ok (.putfield 45, 3) := by decide +kernel
theorem dX12_init_94 : decode cX12_init 94 = .ok (.aload_n 0, 1) := by decide +kernel
theorem dX12_init_95 : decode cX12_init 95 = .ok (.bipush 24, 2) := by decide +kernel
theorem dX12_init_97 : decode cX12_init 97 = .ok (.newarray .int, 2) := by decide +kernel
theorem dX12_init_99 : decode cX12_init 99 = .ok (.putfield 48, 3) := by decide +kernel
theorem dX12_init_102 : decode cX12_init 102 = .ok (.aload_n 0, 1) := by decide +kernel
theorem dX12_init_103 : decode cX12_init 103 = .ok (.bipush 10, 2) := by decide +kernel
theorem dX12_init_105 : decode cX12_init 105 = .ok (.newarray .int, 2) := by decide +kernel
theorem dX12_init_107 : decode cX12_init 107 = .ok (.putfield 51, 3) := by decide +kernel
theorem dX12_init_110 : decode cX12_init 110 = .ok (.aload_n 0, 1) := by decide +kernel
theorem dX12_init_111 : decode cX12_init 111 = .ok (.bipush 80, 2) := by decide +kernel
theorem dX12_init_113 : decode cX12_init 113 = .ok (.newarray .int, 2) := by decide +kernel
theorem dX12_init_115 : decode cX12_init 115 = .ok (.putfield 54, 3) := by decide +kernel
theorem dX12_init_118 : decode cX12_init 118 = .ok (.aload_n 0, 1) := by decide +kernel
theorem dX12_init_119 : decode cX12_init 119 = .ok (.iconst 2, 1) := by decide +kernel
theorem dX12_init_120 : decode cX12_init 120 = .ok (.newarray .int, 2) := by decide +kernel
theorem dX12_init_122 : decode cX12_init 122 = .ok (.putfield 57, 3) := by decide +kernel
theorem dX12_init_125 : decode cX12_init 125 = .ok (.aload_n 0, 1) := by decide +kernel
theorem dX12_init_126 : decode cX12_init 126 = .ok (.iconst 2, 1) := by decide +kernel
theorem dX12_init_127 : decode cX12_init 127 = .ok (.newarray .int, 2) := by decide +kernel
theorem dX12_init_129 : decode cX12_init 129 = .ok (.putfield 60, 3) := by decide +kernel
theorem dX12_init_132 : decode cX12_init 132 = .ok (.aload_n 0, 1) := by decide +kernel
theorem dX12_init_133 : decode cX12_init 133 = .ok (.iconst 2, 1) := by decide +kernel
theorem dX12_init_134 : decode cX12_init 134 = .ok (.newarray .boolean, 2) := by decide +kernel
theorem dX12_init_136 : decode cX12_init 136 = .ok (.putfield 63, 3) := by decide +kernel
theorem dX12_init_139 : decode cX12_init 139 = .ok (.aload_n 0, 1) := by decide +kernel
theorem dX12_init_140 : decode cX12_init 140 = .ok (.iconst 2, 1) := by decide +kernel
theorem dX12_init_141 : decode cX12_init 141 = .ok (.newarray .boolean, 2) := by decide +kernel
theorem dX12_init_143 : decode cX12_init 143 = .ok (.putfield 67, 3) := by decide +kernel
theorem dX12_init_146 : decode cX12_init 146 = .ok (.aload_n 0, 1) := by decide +kernel
theorem dX12_init_147 : decode cX12_init 147 = .ok (.iconst 2, 1) := by decide +kernel
theorem dX12_init_148 : decode cX12_init 148 = .ok (.newarray .boolean, 2) := by decide +kernel
theorem dX12_init_150 : decode cX12_init 150 = .ok (.putfield 70, 3) := by decide +kernel
theorem dX12_init_153 : decode cX12_init 153 = .ok (.aload_n 0, 1) := by decide +kernel
theorem dX12_init_154 : decode cX12_init 154 = .ok (.bipush 18, 2) := by decide +kernel
theorem dX12_init_156 : decode cX12_init 156 = .ok (.newarray .long, 2) := by decide +kernel
theorem dX12_init_158 : decode cX12_init 158 = .ok (.putfield 73, 3) := by decide +kernel
theorem dX12_init_161 : decode cX12_init 161 = .ok (.aload_n 0, 1) := by decide +kernel
theorem dX12_init_162 : decode cX12_init 162 = .ok (.sipush 1120, 3) := by decide +kernel
theorem dX12_init_165 : decode cX12_init 165 = .ok (.newarray .int, 2) := by decide +kernel
theorem dX12_init_167 : decode cX12_init 167 = .ok (.putfield 77, 3) := by decide +kernel
theorem dX12_init_170 : decode cX12_init 170 = .ok (.aload_n 0, 1) := by decide +kernel
theorem dX12_init_171 : decode cX12_init 171 = .ok (.sipush 1120, 3) := by decide +kernel
theorem dX12_init_174 : decode cX12_init 174 = .ok (.newarray .int, 2) := by decide +kernel
theorem dX12_init_176 : decode cX12_init 176 = .ok (.putfield 80, 3) := by decide +kernel
theorem dX12_init_179 : decode cX12_init 179 = .ok (.aload_n 0, 1) := by decide +kernel
theorem dX12_init_180 : decode cX12_init 180 = .ok (.bipush 90, 2) := by decide +kernel
theorem dX12_init_182 : decode cX12_init 182 = .ok (.newarray .int, 2) := by decide +kernel
theorem dX12_init_184 : decode cX12_init 184 = .ok (.putfield 83, 3) := by decide +kernel
theorem dX12_init_187 : decode cX12_init 187 = .ok (.aload_n 0, 1) := by decide +kernel
theorem dX12_init_188 : decode cX12_init 188 = .ok (.bipush 90, 2) := by decide +kernel
theorem dX12_init_190 : decode cX12_init 190 = .ok (.newarray .int, 2) := by decide +kernel
theorem dX12_init_192 : decode cX12_init 192 = .ok (.putfield 86, 3) := by decide +kernel
theorem dX12_init_195 : decode cX12_init 195 = .ok (.aload_n 0, 1) := by decide +kernel
theorem dX12_init_196 : decode cX12_init 196 = .ok (.bipush 60, 2) := by decide +kernel
theorem dX12_init_198 : decode cX12_init 198 = .ok (.newarray .int, 2) := by decide +kernel
theorem dX12_init_200 : decode cX12_init 200 = .ok (.putfield 89, 3) := by decide +kernel
theorem dX12_init_203 : decode cX12_init 203 = .ok (.aload_n 0, 1) := by decide +kernel
theorem dX12_init_204 : decode cX12_init 204 = .ok (.bipush 15, 2) := by decide +kernel
theorem dX12_init_206 : decode cX12_init 206 = .ok (.newarray .int, 2) := by decide +kernel
theorem dX12_init_208 : decode cX12_init 208 = .ok (.putfield 92, 3) := by decide +kernel
theorem dX12_init_211 : decode cX12_init 211 = .ok (.aload_n 0, 1) := by decide +kernel
theorem dX12_init_212 : decode cX12_init 212 = .ok (.bipush 12, 2) := by decide +kernel
theorem dX12_init_214 : decode cX12_init 214 = .ok (.newarray .int, 2) := by decide +kernel
theorem dX12_init_216 : decode cX12_init 216 = .ok (.putfield 95, 3) := by decide +kernel
theorem dX12_init_219 : decode cX12_init 219 = .ok (.aload_n 0, 1) := by decide +kernel
theorem dX12_init_220 : decode cX12_init 220 = .ok (.bipush 12, 2) := by decide +kernel
theorem dX12_init_222 : decode cX12_init 222 = .ok (.newarray .int, 2) := by decide +kernel
theorem dX12_init_224 : decode cX12_init 224 = .ok (.putfield 98, 3) := by decide +kernel
theorem dX12_init_227 : decode cX12_init 227 = .ok (.aload_n 0, 1) := by decide +kernel
theorem dX12_init_228 : decode cX12_init 228 = .ok (.bipush 12, 2) := by decide +kernel
theorem dX12_init_230 : decode cX12_init 230 = .ok (.newarray .int, 2) := by decide +kernel
theorem dX12_init_232 : decode cX12_init 232 = .ok (.putfield 101, 3) := by decide +kernel
theorem dX12_init_235 : decode cX12_init 235 = .ok (.aload_n 0, 1) := by decide +kernel
theorem dX12_init_236 : decode cX12_init 236 = .ok (.sipush 615, 3) := by decide +kernel
theorem dX12_init_239 : decode cX12_init 239 = .ok (.newarray .int, 2) := by decide +kernel
theorem dX12_init_241 : decode cX12_init 241 = .ok (.putfield 104, 3) := by decide +kernel
theorem dX12_init_244 : decode cX12_init 244 = .ok (.aload_n 0, 1) := by decide +kernel
theorem dX12_init_245 : decode cX12_init 245 = .ok (.bipush 13, 2) := by decide +kernel
theorem dX12_init_247 : decode cX12_init 247 = .ok (.newarray .int, 2) := by decide +kernel
theorem dX12_init_249 : decode cX12_init 249 = .ok (.putfield 107, 3) := by decide +kernel
theorem dX12_init_252 : decode cX12_init 252 = .ok (.aload_n 0, 1) := by decide +kernel
theorem dX12_init_253 : decode cX12_init 253 = .ok (.sipush 2197, 3) := by decide +kernel
theorem dX12_init_256 : decode cX12_init 256 = .ok (.newarray .int, 2) := by decide +kernel
theorem dX12_init_258 : decode cX12_init 258 = .ok (.putfield 110, 3) := by decide +kernel
theorem dX12_init_261 : decode cX12_init 261 = .ok (.aload_n 0, 1) := by decide +kernel
theorem dX12_init_262 : decode cX12_init 262 = .ok (.sipush 2197, 3) := by decide +kernel
theorem dX12_init_265 : decode cX12_init 265 = .ok (.newarray .int, 2) := by decide +kernel
theorem dX12_init_267 : decode cX12_init 267 = .ok (.putfield 113, 3) := by decide +kernel
theorem dX12_init_270 : decode cX12_init 270 = .ok (.aload_n 0, 1) := by decide +kernel
theorem dX12_init_271 : decode cX12_init 271 = .ok (.bipush 36, 2) := by decide +kernel
theorem dX12_init_273 : decode cX12_init 273 = .ok (.newarray .int, 2) := by decide +kernel
theorem dX12_init_275 : decode cX12_init 275 = .ok (.putfield 116, 3) := by decide +kernel
theorem dX12_init_278 : decode cX12_init 278 = .ok (.aload_n 0, 1) := by decide +kernel
theorem dX12_init_279 : decode cX12_init 279 = .ok (.sipush 169, 3) := by decide +kernel
theorem dX12_init_282 : decode cX12_init 282 = .ok (.newarray .int, 2) := by decide +kernel
theorem dX12_init_284 : decode cX12_init 284 = .ok (.putfield 119, 3) := by decide +kernel
theorem dX12_init_287 : decode cX12_init 287 = .ok (.aload_n 0, 1) := by decide +kernel
theorem dX12_init_288 : decode cX12_init 288 = .ok (.sipush 169, 3) := by decide +kernel
theorem dX12_init_291 : decode cX12_init 291 = .ok (.newarray .int, 2) := by decide +kernel
theorem dX12_init_293 : decode cX12_init 293 = .ok (.putfield 122, 3) := by decide +kernel
theorem dX12_init_296 : decode cX12_init 296 = .ok (.aload_n 0, 1) := by decide +kernel
theorem dX12_init_297 : decode cX12_init 297 = .ok (.sipush 4096, 3) := by decide +kernel
theorem dX12_init_300 : decode cX12_init 300 = .ok (.newarray .int, 2) := by decide +kernel
theorem dX12_init_302 : decode cX12_init 302 = .ok (.putfield 125, 3) := by decide +kernel
theorem dX12_init_305 : decode cX12_init 305 = .ok (.aload_n 0, 1) := by decide +kernel
theorem dX12_init_306 : decode cX12_init 306 = .ok (.bipush 15, 2) := by decide +kernel
theorem dX12_init_308 : decode cX12_init 308 = .ok (.newarray .int, 2) := by decide +kernel
theorem dX12_init_310 : decode cX12_init 310 = .ok (.putfield 128, 3) := by decide +kernel
theorem dX12_init_313 : decode cX12_init 313 = .ok (.aload_n 0, 1) := by decide +kernel
theorem dX12_init_314 : decode cX12_init 314 = .ok (.bipush 30, 2) := by decide +kernel
theorem dX12_init_316 : decode cX12_init 316 = .ok (.newarray .int, 2) := by decide +kernel
theorem dX12_init_318 : decode cX12_init 318 = .ok (.putfield 131, 3) := by decide +kernel
theorem dX12_init_321 : decode cX12_init 321 = .ok (.aload_n 0, 1) := by decide +kernel
theorem dX12_init_322 : decode cX12_init 322 = .ok (.bipush 30, 2) := by decide +kernel
theorem dX12_init_324 : decode cX12_init 324 = .ok (.newarray .int, 2) := by decide +kernel
theorem dX12_init_326 : decode cX12_init 326 = .ok (.putfield 134, 3) := by decide +kernel
theorem dX12_init_329 : decode cX12_init 329 = .ok (.aload_n 0, 1) := by decide +kernel
theorem dX12_init_330 : decode cX12_init 330 = .ok (.bipush 30, 2) := by decide +kernel
theorem dX12_init_332 : decode cX12_init 332 = .ok (.newarray .int, 2) := by decide +kernel
theorem dX12_init_334 : decode cX12_init 334 = .ok (.putfield 137, 3) := by decide +kernel
theorem dX12_init_337 : decode cX12_init 337 = .ok (.aload_n 0, 1) := by decide +kernel
theorem dX12_init_338 : decode cX12_init 338 = .ok (.bipush 30, 2) := by decide +kernel
theorem dX12_init_340 : decode cX12_init 340 = .ok (.newarray .int, 2) := by decide +kernel
theorem dX12_init_342 : decode cX12_init 342 = .ok (.putfield 140, 3) := by decide +kernel
theorem dX12_init_345 : decode cX12_init 345 = .ok (.aload_n 0, 1) := by decide +kernel
theorem dX12_init_346 : decode cX12_init 346 = .ok (.bipush 30, 2) := by decide +kernel
theorem dX12_init_348 : decode cX12_init 348 = .ok (.newarray .int, 2) := by decide +kernel
theorem dX12_init_350 : decode cX12_init 350 = .ok (.putfield 143, 3) := by decide +kernel
theorem dX12_init_353 : decode cX12_init 353 = .ok (.aload_n 0, 1) := by decide +kernel
theorem dX12_init_354 : decode cX12_init 354 = .ok (.iconst 5, 1) := by decide +kernel
theorem dX12_init_355 : decode cX12_init 355 = .ok (.newarray .int, 2) := by decide +kernel
theorem dX12_init_357 : decode cX12_init 357 = .ok (.putfield 146, 3) := by decide +kernel
theorem dX12_init_360 : decode cX12_init 360 = .ok (.aload_n 0, 1) := by decide +kernel
theorem dX12_init_361 : decode cX12_init 361 = .ok (.iconst 5, 1) := by decide +kernel
theorem dX12_init_362 : decode cX12_init 362 = .ok (.newarray .int, 2) := by decide +kernel
theorem dX12_init_364 : decode cX12_init 364 = .ok (.putfield 149, 3) := by decide +kernel
theorem dX12_init_367 : decode cX12_init 367 = .ok (.aload_n 0, 1) := by decide +kernel
theorem dX12_init_368 : decode cX12_init 368 = .ok (.bipush 25, 2) := by decide +kernel
theorem dX12_init_370 : decode cX12_init 370 = .ok (.newarray .int, 2) := by decide +kernel
theorem dX12_init_372 : decode cX12_init 372 = .ok (.putfield 152, 3) := by decide +kernel
theorem dX12_init_375 : decode cX12_init 375 = .ok (.aload_n 0, 1) := by decide +kernel
theorem dX12_init_376 : decode cX12_init 376 = .ok (.bipush 45, 2) := by decide +kernel
theorem dX12_init_378 : decode cX12_init 378 = .ok (.newarray .int, 2) := by decide +kernel
theorem dX12_init_380 : decode cX12_init 380 = .ok (.putfield 155, 3) := by decide +kernel
theorem dX12_init_383 : decode cX12_init 383 = .ok (.aload_n 0, 1) := by decide +kernel
theorem dX12_init_384 : decode cX12_init 384 = .ok (.iconst 3, 1) := by decide +kernel
theorem dX12_init_385 : decode cX12_init 385 = .ok (.newarray .boolean, 2) := by decide +kernel
theorem dX12_init_387 : decode cX12_init 387 = .ok (.putfield 158, 3) := by decide +kernel
theorem dX12_init_390 : decode cX12_init 390 = .ok (.aload_n 0, 1) := by decide +kernel
theorem dX12_init_391 : decode cX12_init 391 = .ok (.invokevirtual 161, 3) := by decide +kernel
theorem dX12_init_394 : decode cX12_init 394 = .ok (.aload_n 0, 1) := by decide +kernel
theorem dX12_init_395 : decode cX12_init 395 = .ok (.invokevirtual 164, 3) := by decide +kernel
theorem dX12_init_398 : decode cX12_init 398 = .ok (.return_, 1) := by decide +kernel
theorem dX12_sign_0 : decode cX12_sign 0 = .ok (.iload_n 1, 1) := by decide +kernel
theorem dX12_sign_1 : decode cX12_sign 1 = .ok (.aload_n 0, 1) := by decide +kernel
theorem dX12_sign_2 : decode cX12_sign 2 = .ok (.getfield 167, 3) := by decide +kernel
theorem dX12_sign_5 : decode cX12_sign 5 = .ok (.if_icmp .ge 16, 3) := by decide +kernel
theorem dX12_sign_21 : decode cX12_sign 21 = .ok (.iconst 0, 1) := by decide +kernel
theorem dX12_sign_22 : decode cX12_sign 22 = .ok (.ireturn, 1) := by decide +kernel
theorem dX12_isGood_0 : decode cX12_isGood 0 = .ok (.aload_n 0, 1) := by decide +kernel
theorem dX12_isGood_1 : decode cX12_isGood 1 = .ok (.getfield 170, 3) := by decide +kernel
theorem dX12_isGood_4 : decode cX12_isGood 4 = .ok (.ifCond .ne 7, 3) := by decide +kernel
theorem dX12_isGood_7 : decode cX12_isGood 7 = .ok (.iconst 1, 1) := by decide +kernel
theorem dX12_isGood_8 : decode cX12_isGood 8 = .ok (.goto 4, 3) := by decide +kernel
theorem dX12_isGood_12 : decode cX12_isGood 12 = .ok (.ireturn, 1) := by decide +kernel
theorem dX12_goOn_0 : decode cX12_goOn 0 = .ok (.aload_n 0, 1) := by decide +kernel
theorem dX12_goOn_1 : decode cX12_goOn 1 = .ok (.aload_n 0, 1) := by decide +kernel
theorem dX12_goOn_2 : decode cX12_goOn 2 = .ok (.getfield 203, 3) := by decide +kernel
theorem dX12_goOn_5 : decode cX12_goOn 5 = .ok (.putfield 206, 3) := by decide +kernel
theorem dX12_goOn_8 : decode cX12_goOn 8 = .ok (.aload_n 0, 1) := by decide +kernel
theorem dX12_goOn_9 : decode cX12_goOn 9 = .ok (.getfield 206, 3) := by decide +kernel
theorem dX12_goOn_12 : decode cX12_goOn 12 = .ok (.aload_n 0, 1) := by decide +kernel
theorem dX12_goOn_13 : decode cX12_goOn 13 = .ok (.getfield 167, 3) := by decide +kernel
theorem dX12_goOn_16 : decode cX12_goOn 16 = .ok (.if_icmp .ge 42, 3) := by decide +kernel
theorem dX12_goOn_58 : decode cX12_goOn 58 = .ok (.aload_n 0, 1) := by decide +kernel
theorem dX12_goOn_59 : decode cX12_goOn 59 = .ok (.aload_n 0, 1) := by decide +kernel
theorem dX12_goOn_60 : decode cX12_goOn 60 = .ok (.getfield 206, 3) := by decide +kernel
theorem dX12_goOn_63 : decode cX12_goOn 63 = .ok (.invokevirtual 209, 3) := by decide +kernel
theorem dX12_goOn_66 : decode cX12_goOn 66 = .ok (.istore_n 1, 1) := by decide +kernel
theorem dX12_goOn_67 : decode cX12_goOn 67 = .ok (.aload_n 0, 1) := by decide +kernel
theorem dX12_goOn_68 : decode cX12_goOn 68 = .ok (.aload_n 0, 1) := by decide +kernel
theorem dX12_goOn_69 : decode cX12_goOn 69 = .ok (.getfield 206, 3) := by decide +kernel
theorem dX12_goOn_72 : decode cX12_goOn 72 = .ok (.iconst 1, 1) := by decide +kernel
theorem dX12_goOn_73 : decode cX12_goOn 73 = .ok (.iadd, 1) := by decide +kernel
theorem dX12_goOn_74 : decode cX12_goOn 74 = .ok (.putfield 203, 3) := by decide +kernel
theorem dX12_goOn_77 : decode cX12_goOn 77 = .ok (.aload_n 0, 1) := by decide +kernel
theorem dX12_goOn_78 : decode cX12_goOn 78 = .ok (.getfield 206, 3) := by decide +kernel
theorem dX12_goOn_81 : decode cX12_goOn 81 = .ok (.aload_n 0, 1) := by decide +kernel
theorem dX12_goOn_82 : decode cX12_goOn 82 = .ok (.getfield 167, 3) := by decide +kernel
theorem dX12_goOn_85 : decode cX12_goOn 85 = .ok (.if_icmp .lt 27, 3) := by decide +kernel
theorem dX12_goOn_88 : decode cX12_goOn 88 = .ok (.aload_n 0, 1) := by decide +kernel
theorem dX12_goOn_89 : decode cX12_goOn 89 = .ok (.iconst 0, 1) := by decide +kernel
theorem dX12_goOn_90 : decode cX12_goOn 90 = .ok (.putfield 213, 3) := by decide +kernel
theorem dX12_goOn_93 : decode cX12_goOn 93 = .ok (.aload_n 0, 1) := by decide +kernel
theorem dX12_goOn_94 : decode cX12_goOn 94 = .ok (.aload_n 0, 1) := by decide +kernel
theorem dX12_goOn_95 : decode cX12_goOn 95 = .ok (.getfield 167, 3) := by decide +kernel
theorem dX12_goOn_98 : decode cX12_goOn 98 = .ok (.putfield 206, 3) := by decide +kernel
theorem dX12_goOn_101 : decode cX12_goOn 101 = .ok (.aload_n 0, 1) := by decide +kernel
theorem dX12_goOn_102 : decode cX12_goOn 102 = .ok (.aload_n 0, 1) := by decide +kernel
theorem dX12_goOn_103 : decode cX12_goOn 103 = .ok (.getfield 167, 3) := by decide +kernel
theorem dX12_goOn_106 : decode cX12_goOn 106 = .ok (.putfield 203, 3) := by decide +kernel
theorem dX12_goOn_109 : decode cX12_goOn 109 = .ok (.goto 268, 3) := by decide +kernel
theorem dX12_goOn_377 : decode cX12_goOn 377 = .ok (.return_, 1) := by decide +kernel
theorem dX12_clearBank_0 : decode cX12_clearBank 0 = .ok (.aload_n 0, 1) := by decide +kernel
theorem dX12_clearBank_1 : decode cX12_clearBank 1 = .ok (.getfield 20, 3) := by decide +kernel
theorem dX12_clearBank_4 : decode cX12_clearBank 4 = .ok (.aload_n 0, 1) := by decide +kernel
theorem dX12_clearBank_5 : decode cX12_clearBank 5 = .ok (.getfield 265, 3) := by decide +kernel
theorem dX12_clearBank_8 : decode cX12_clearBank 8 = .ok (.iconst 0, 1) := by decide +kernel
theorem dX12_clearBank_9 : decode cX12_clearBank 9 = .ok (.iastore, 1) := by decide +kernel
theorem dX12_clearBank_10 : decode cX12_clearBank 10 = .ok (.aload_n 0, 1) := by decide +kernel
theorem dX12_clearBank_11 : decode cX12_clearBank 11 = .ok (.getfield 24, 3) := by decide +kernel
theorem dX12_clearBank_14 : decode cX12_clearBank 14 = .ok (.aload_n 0, 1) := by decide +kernel
theorem dX12_clearBank_15 : decode cX12_clearBank 15 = .ok (.getfield 265, 3) := by decide +kernel
theorem dX12_clearBank_18 : decode cX12_clearBank 18 = .ok (.iconst 0, 1) := by decide +kernel
theorem dX12_clearBank_19 : decode cX12_clearBank 19 = .ok (.iastore, 1) := by decide +kernel
theorem dX12_clearBank_20 : decode cX12_clearBank 20 = .ok (.aload_n 0, 1) := by decide +kernel
theorem dX12_clearBank_21 : decode cX12_clearBank 21 = .ok (.getfield 27, 3) := by decide +kernel
theorem dX12_clearBank_24 : decode cX12_clearBank 24 = .ok (.aload_n 0, 1) := by decide +kernel
theorem dX12_clearBank_25 : decode cX12_clearBank 25 = .ok (.getfield 265, 3) := by decide +kernel
theorem dX12_clearBank_28 : decode cX12_clearBank 28 = .ok (.iconst 0, 1) := by decide +kernel
theorem dX12_clearBank_29 : decode cX12_clearBank 29 = .ok (.iastore, 1) := by decide +kernel
theorem dX12_clearBank_30 : decode cX12_clearBank 30 = .ok (.aload_n 0, 1) := by decide +kernel
theorem dX12_clearBank_31 : decode cX12_clearBank 31 = .ok (.getfield 30, 3) := by decide +kernel
theorem dX12_clearBank_34 : decode cX12_clearBank 34 = .ok (.aload_n 0, 1) := by decide +kernel
theorem dX12_clearBank_35 : decode cX12_clearBank 35 = .ok (.getfield 265, 3) := by decide +kernel
theorem dX12_clearBank_38 : decode cX12_clearBank 38 = .ok (.iconst 0, 1) := by decide +kernel
theorem dX12_clearBank_39 : decode cX12_clearBank 39 = .ok (.iastore, 1) := by decide +kernel
theorem dX12_clearBank_40 : decode cX12_clearBank 40 = .ok (.aload_n 0, 1) := by decide +kernel
theorem dX12_clearBank_41 : decode cX12_clearBank 41 = .ok (.getfield 33, 3) := by decide +kernel
theorem dX12_clearBank_44 : decode cX12_clearBank 44 = .ok (.aload_n 0, 1) := by decide +kernel
theorem dX12_clearBank_45 : decode cX12_clearBank 45 = .ok (.getfield 265, 3) := by decide +kernel
theorem dX12_clearBank_48 : decode cX12_clearBank 48 = .ok (.iconst 0, 1) := by decide +kernel
theorem dX12_clearBank_49 : decode cX12_clearBank 49 = .ok (.iastore, 1) := by decide +kernel
theorem dX12_clearBank_50 : decode cX12_clearBank 50 = .ok (.aload_n 0, 1) := by decide +kernel
theorem dX12_clearBank_51 : decode cX12_clearBank 51 = .ok (.getfield 36, 3) := by decide +kernel
theorem dX12_clearBank_54 : decode cX12_clearBank 54 = .ok (.aload_n 0, 1) := by decide +kernel
theorem dX12_clearBank_55 : decode cX12_clearBank 55 = .ok (.getfield 265, 3) := by decide +kernel
theorem dX12_clearBank_58 : decode cX12_clearBank 58 = .ok (.iconst 0, 1) := by decide +kernel
theorem dX12_clearBank_59 : decode cX12_clearBank 59 = .ok (.iastore, 1) := by decide +kernel
theorem dX12_clearBank_60 : decode cX12_clearBank 60 = .ok (.aload_n 0, 1) := by decide +kernel
theorem dX12_clearBank_61 : decode cX12_clearBank 61 = .ok (.getfield 63, 3) := by decide +kernel
theorem dX12_clearBank_64 : decode cX12_clearBank 64 = .ok (.aload_n 0, 1) := by decide +kernel
theorem dX12_clearBank_65 : decode cX12_clearBank 65 = .ok (.getfield 265, 3) := by decide +kernel
theorem dX12_clearBank_68 : decode cX12_clearBank 68 = .ok (.iconst 0, 1) := by decide +kernel
theorem dX12_clearBank_69 : decode cX12_clearBank 69 = .ok (.bastore, 1) := by decide +kernel
theorem dX12_clearBank_70 : decode cX12_clearBank 70 = .ok (.aload_n 0, 1) := by decide +kernel
theorem dX12_clearBank_71 : decode cX12_clearBank 71 = .ok (.getfield 67, 3) := by decide +kernel
theorem dX12_clearBank_74 : decode cX12_clearBank 74 = .ok (.aload_n 0, 1) := by decide +kernel
theorem dX12_clearBank_75 : decode cX12_clearBank 75 = .ok (.getfield 265, 3) := by decide +kernel
theorem dX12_clearBank_78 : decode cX12_clearBank 78 = .ok (.iconst 0, 1) := by decide +kernel
theorem dX12_clearBank_79 : decode cX12_clearBank 79 = .ok (.bastore, 1) := by decide +kernel
theorem dX12_clearBank_80 : decode cX12_clearBank 80 = .ok (.aload_n 0, 1) := by decide +kernel
theorem dX12_clearBank_81 : decode cX12_clearBank 81 = .ok (.getfield 70, 3) := by decide +kernel
theorem dX12_clearBank_84 : decode cX12_clearBank 84 = .ok (.aload_n 0, 1) := by decide +kernel
theorem dX12_clearBank_85 : decode cX12_clearBank 85 = .ok (.getfield 265, 3) := by decide +kernel
theorem dX12_clearBank_88 : decode cX12_clearBank 88 = .ok (.iconst 0, 1) := by decide +kernel
theorem dX12_clearBank_89 : decode cX12_clearBank 89 = .ok (.bastore, 1) := by decide +kernel
theorem dX12_clearBank_90 : decode cX12_clearBank 90 = .ok (.aload_n 0, 1) := by decide +kernel
theorem dX12_clearBank_91 : decode cX12_clearBank 91 = .ok (.sipush 560, 3) := by decide +kernel
theorem dX12_clearBank_94 : decode cX12_clearBank 94 = .ok (.aload_n 0, 1) := by decide +kernel
theorem dX12_clearBank_95 : decode cX12_clearBank 95 = .ok (.getfield 265, 3) := by decide +kernel
theorem dX12_clearBank_98 : decode cX12_clearBank 98 = .ok (.imul, 1) := by decide +kernel
theorem dX12_clearBank_99 : decode cX12_clearBank 99 = .ok (.putfield 268, 3) := by decide +kernel
theorem dX12_clearBank_102 : decode cX12_clearBank 102 = .ok (.return_, 1) := by decide +kernel
theorem dX12_table_0 : decode cX12_table 0 = .ok (.aload_n 0, 1) := by decide +kernel
theorem dX12_table_1 : decode cX12_table 1 = .ok (.iconst 0, 1) := by decide +kernel
theorem dX12_table_2 : decode cX12_table 2 = .ok (.putfield 170, 3) := by decide +kernel
theorem dX12_table_5 : decode cX12_table 5 = .ok (.aload_n 0, 1) := by decide +kernel
theorem dX12_table_6 : decode cX12_table 6 = .ok (.iconst (-1), 1) := by decide +kernel
theorem dX12_table_7 : decode cX12_table 7 = .ok (.putfield 16, 3) := by decide +kernel
theorem dX12_table_10 : decode cX12_table 10 = .ok (.aload_n 0, 1) := by decide +kernel
theorem dX12_table_11 : decode cX12_table 11 = .ok (.aload_n 0, 1) := by decide +kernel
theorem dX12_table_12 : decode cX12_table 12 = .ok (.getfield 271, 3) := by decide +kernel
theorem dX12_table_15 : decode cX12_table 15 = .ok (.putfield 167, 3) := by decide +kernel
theorem dX12_table_18 : decode cX12_table 18 = .ok (.iconst 0, 1) := by decide +kernel
theorem dX12_table_19 : decode cX12_table 19 = .ok (.istore_n 1, 1) := by decide +kernel
theorem dX12_table_20 : decode cX12_table 20 = .ok (.iload_n 1, 1) := by decide +kernel
theorem dX12_table_21 : decode cX12_table 21 = .ok (.aload_n 0, 1) := by decide +kernel
theorem dX12_table_22 : decode cX12_table 22 = .ok (.getfield 167, 3) := by decide +kernel
theorem dX12_table_25 : decode cX12_table 25 = .ok (.if_icmp .ge 21, 3) := by decide +kernel
theorem dX12_table_46 : decode cX12_table 46 = .ok (.aload_n 0, 1) := by decide +kernel
theorem dX12_table_47 : decode cX12_table 47 = .ok (.iconst 0, 1) := by decide +kernel
theorem dX12_table_48 : decode cX12_table 48 = .ok (.putfield 271, 3) := by decide +kernel
theorem dX12_table_51 : decode cX12_table 51 = .ok (.aload_n 0, 1) := by decide +kernel
theorem dX12_table_52 : decode cX12_table 52 = .ok (.iconst 0, 1) := by decide +kernel
theorem dX12_table_53 : decode cX12_table 53 = .ok (.putfield 203, 3) := by decide +kernel
theorem dX12_table_56 : decode cX12_table 56 = .ok (.aload_n 0, 1) := by decide +kernel
theorem dX12_table_57 : decode cX12_table 57 = .ok (.iconst 1, 1) := by decide +kernel
theorem dX12_table_58 : decode cX12_table 58 = .ok (.aload_n 0, 1) := by decide +kernel
theorem dX12_table_59 : decode cX12_table 59 = .ok (.getfield 274, 3) := by decide +kernel
theorem dX12_table_62 : decode cX12_table 62 = .ok (.isub, 1) := by decide +kernel
theorem dX12_table_63 : decode cX12_table 63 = .ok (.putfield 265, 3) := by decide +kernel
theorem dX12_table_66 : decode cX12_table 66 = .ok (.aload_n 0, 1) := by decide +kernel
theorem dX12_table_67 : decode cX12_table 67 = .ok (.invokevirtual 161, 3) := by decide +kernel
theorem dX12_table_70 : decode cX12_table 70 = .ok (.aload_n 0, 1) := by decide +kernel
theorem dX12_table_71 : decode cX12_table 71 = .ok (.invokevirtual 245, 3) := by decide +kernel
theorem dX12_table_74 : decode cX12_table 74 = .ok (.aload_n 0, 1) := by decide +kernel
theorem dX12_table_75 : decode cX12_table 75 = .ok (.invokevirtual 241, 3) := by decide +kernel
theorem dX12_table_78 : decode cX12_table 78 = .ok (.ifCond .eq 17, 3) := by decide +kernel
theorem dX12_table_81 : decode cX12_table 81 = .ok (.aload_n 0, 1) := by decide +kernel
theorem dX12_table_82 : decode cX12_table 82 = .ok (.getfield 213, 3) := by decide +kernel
theorem dX12_table_85 : decode cX12_table 85 = .ok (.ifCond .eq 10, 3) := by decide +kernel
theorem dX12_table_95 : decode cX12_table 95 = .ok (.aload_n 0, 1) := by decide +kernel
theorem dX12_table_96 : decode cX12_table 96 = .ok (.invokevirtual 241, 3) := by decide +kernel
theorem dX12_table_99 : decode cX12_table 99 = .ok (.ifCond .ne 5, 3) := by decide +kernel
theorem dX12_table_104 : decode cX12_table 104 = .ok (.aload_n 0, 1) := by decide +kernel
theorem dX12_table_105 : decode cX12_table 105 = .ok (.aload_n 0, 1) := by decide +kernel
theorem dX12_table_106 : decode cX12_table 106 = .ok (.getfield 265, 3) := by decide +kernel
theorem dX12_table_109 : decode cX12_table 109 = .ok (.putfield 274, 3) := by decide +kernel
theorem dX12_table_112 : decode cX12_table 112 = .ok (.aload_n 0, 1) := by decide +kernel
theorem dX12_table_113 : decode cX12_table 113 = .ok (.invokevirtual 164, 3) := by decide +kernel
theorem dX12_table_116 : decode cX12_table 116 = .ok (.aload_n 0, 1) := by decide +kernel
theorem dX12_table_117 : decode cX12_table 117 = .ok (.getfield 27, 3) := by decide +kernel
theorem dX12_table_120 : decode cX12_table 120 = .ok (.aload_n 0, 1) := by decide +kernel
theorem dX12_table_121 : decode cX12_table 121 = .ok (.getfield 274, 3) := by decide +kernel
theorem dX12_table_124 : decode cX12_table 124 = .ok (.iaload, 1) := by decide +kernel
theorem dX12_table_125 : decode cX12_table 125 = .ok (.ireturn, 1) := by decide +kernel
theorem dX12_fault_0 : decode cX12_fault 0 = .ok (.iload_n 1, 1) := by decide +kernel
theorem dX12_fault_1 : decode cX12_fault 1 = .ok (.ifCond .ne 10, 3) := by decide +kernel
theorem dX12_fault_4 : decode cX12_fault 4 = .ok (.aload_n 0, 1) := by decide +kernel
theorem dX12_fault_5 : decode cX12_fault 5 = .ok (.getfield 170, 3) := by decide +kernel
theorem dX12_fault_8 : decode cX12_fault 8 = .ok (.goto 16, 3) := by decide +kernel
theorem dX12_fault_11 : decode cX12_fault 11 = .ok (.iload_n 1, 1) := by decide +kernel
theorem dX12_fault_12 : decode cX12_fault 12 = .ok (.iconst 1, 1) := by decide +kernel
theorem dX12_fault_13 : decode cX12_fault 13 = .ok (.if_icmp .ne 10, 3) := by decide +kernel
theorem dX12_fault_16 : decode cX12_fault 16 = .ok (.aload_n 0, 1) := by decide +kernel
theorem dX12_fault_17 : decode cX12_fault 17 = .ok (.getfield 16, 3) := by decide +kernel
theorem dX12_fault_20 : decode cX12_fault 20 = .ok (.goto 4, 3) := by decide +kernel
theorem dX12_fault_23 : decode cX12_fault 23 = .ok (.iconst (-1), 1) := by decide +kernel
theorem dX12_fault_24 : decode cX12_fault 24 = .ok (.ireturn, 1) := by decide +kernel
theorem dX12_isIn_0 : decode cX12_isIn 0 = .ok (.iload_n 0, 1) := by decide +kernel
theorem dX12_isIn_1 : decode cX12_isIn 1 = .ok (.iload_n 1, 1) := by decide +kernel
theorem dX12_isIn_2 : decode cX12_isIn 2 = .ok (.if_icmp .lt 12, 3) := by decide +kernel
theorem dX12_isIn_5 : decode cX12_isIn 5 = .ok (.iload_n 0, 1) := by decide +kernel
theorem dX12_isIn_6 : decode cX12_isIn 6 = .ok (.iload_n 2, 1) := by decide +kernel
theorem dX12_isIn_7 : decode cX12_isIn 7 = .ok (.if_icmp .gt 7, 3) := by decide +kernel
theorem dX12_isIn_10 : decode cX12_isIn 10 = .ok (.iconst 1, 1) := by decide +kernel
theorem dX12_isIn_11 : decode cX12_isIn 11 = .ok (.goto 4, 3) := by decide +kernel
theorem dX12_isIn_14 : decode cX12_isIn 14 = .ok (.iconst 0, 1) := by decide +kernel
theorem dX12_isIn_15 : decode cX12_isIn 15 = .ok (.ireturn, 1) := by decide +kernel
theorem dX12_isPlace_0 : decode cX12_isPlace 0 = .ok (.iload_n 1, 1) := by decide +kernel
theorem dX12_isPlace_1 : decode cX12_isPlace 1 = .ok (.iconst 0, 1) := by decide +kernel
theorem dX12_isPlace_2 : decode cX12_isPlace 2 = .ok (.aload_n 0, 1) := by decide +kernel
theorem dX12_isPlace_3 : decode cX12_isPlace 3 = .ok (.getfield 92, 3) := by decide +kernel
theorem dX12_isPlace_6 : decode cX12_isPlace 6 = .ok (.bipush 12, 2) := by decide +kernel
theorem dX12_isPlace_8 : decode cX12_isPlace 8 = .ok (.iaload, 1) := by decide +kernel
theorem dX12_isPlace_9 : decode cX12_isPlace 9 = .ok (.iconst 1, 1) := by decide +kernel
theorem dX12_isPlace_10 : decode cX12_isPlace 10 = .ok (.isub, 1) := by decide +kernel
theorem dX12_isPlace_11 : decode cX12_isPlace 11 = .ok (.invokestatic 359, 3) := by decide +kernel
theorem dX12_isPlace_14 : decode cX12_isPlace 14 = .ok (.ireturn, 1) := by decide +kernel
theorem dX12_isSaying_0 : decode cX12_isSaying 0 = .ok (.iload_n 1, 1) := by decide +kernel
theorem dX12_isSaying_1 : decode cX12_isSaying 1 = .ok (.iconst 0, 1) := by decide +kernel
theorem dX12_isSaying_2 : decode cX12_isSaying 2 = .ok (.aload_n 0, 1) := by decide +kernel
theorem dX12_isSaying_3 : decode cX12_isSaying 3 = .ok (.getfield 20, 3) := by decide +kernel
theorem dX12_isSaying_6 : decode cX12_isSaying 6 = .ok (.aload_n 0, 1) := by decide +kernel
theorem dX12_isSaying_7 : decode cX12_isSaying 7 = .ok (.getfield 274, 3) := by decide +kernel
theorem dX12_isSaying_10 : decode cX12_isSaying 10 = .ok (.iaload, 1) := by decide +kernel
theorem dX12_isSaying_11 : decode cX12_isSaying 11 = .ok (.iconst 1, 1) := by decide +kernel
theorem dX12_isSaying_12 : decode cX12_isSaying 12 = .ok (.isub, 1) := by decide +kernel
theorem dX12_isSaying_13 : decode cX12_isSaying 13 = .ok (.invokestatic 359, 3) := by decide +kernel
theorem dX12_isSaying_16 : decode cX12_isSaying 16 = .ok (.ireturn, 1) := by decide +kernel
theorem dX12_isSlip_0 : decode cX12_isSlip 0 = .ok (.iload_n 1, 1) := by decide +kernel
theorem dX12_isSlip_1 : decode cX12_isSlip 1 = .ok (.iconst 0, 1) := by decide +kernel
theorem dX12_isSlip_2 : decode cX12_isSlip 2 = .ok (.aload_n 0, 1) := by decide +kernel
theorem dX12_isSlip_3 : decode cX12_isSlip 3 = .ok (.getfield 27, 3) := by decide +kernel
theorem dX12_isSlip_6 : decode cX12_isSlip 6 = .ok (.aload_n 0, 1) := by decide +kernel
theorem dX12_isSlip_7 : decode cX12_isSlip 7 = .ok (.getfield 274, 3) := by decide +kernel
theorem dX12_isSlip_10 : decode cX12_isSlip 10 = .ok (.iaload, 1) := by decide +kernel
theorem dX12_isSlip_11 : decode cX12_isSlip 11 = .ok (.iconst 1, 1) := by decide +kernel
theorem dX12_isSlip_12 : decode cX12_isSlip 12 = .ok (.isub, 1) := by decide +kernel
theorem dX12_isSlip_13 : decode cX12_isSlip 13 = .ok (.invokestatic 359, 3) := by decide +kernel
theorem dX12_isSlip_16 : decode cX12_isSlip 16 = .ok (.ireturn, 1) := by decide +kernel
theorem dX12_isSlipOrRow_0 : decode cX12_isSlipOrRow 0 = .ok (.iload_n 1, 1) := by decide +kernel
theorem dX12_isSlipOrRow_1 : decode cX12_isSlipOrRow 1 = .ok (.iconst (-1), 1) := by decide +kernel
theorem dX12_isSlipOrRow_2 : decode cX12_isSlipOrRow 2 = .ok (.if_icmp .eq 11, 3) := by decide +kernel
theorem dX12_isSlipOrRow_5 : decode cX12_isSlipOrRow 5 = .ok (.aload_n 0, 1) := by decide +kernel
theorem dX12_isSlipOrRow_6 : decode cX12_isSlipOrRow 6 = .ok (.iload_n 1, 1) := by decide +kernel
theorem dX12_isSlipOrRow_7 : decode cX12_isSlipOrRow 7 = .ok (.invokevirtual 363, 3) := by decide +kernel
theorem dX12_isSlipOrRow_10 : decode cX12_isSlipOrRow 10 = .ok (.ifCond .eq 7, 3) := by decide +kernel
theorem dX12_isSlipOrRow_13 : decode cX12_isSlipOrRow 13 = .ok (.iconst 1, 1) := by decide +kernel
theorem dX12_isSlipOrRow_14 : decode cX12_isSlipOrRow 14 = .ok (.goto 4, 3) := by decide +kernel
theorem dX12_isSlipOrRow_17 : decode cX12_isSlipOrRow 17 = .ok (.iconst 0, 1) := by decide +kernel
theorem dX12_isSlipOrRow_18 : decode cX12_isSlipOrRow 18 = .ok (.ireturn, 1) := by decide +kernel
theorem dX12_startAnew_0 : decode cX12_startAnew 0 = .ok (.iconst 0, 1) := by decide +kernel
theorem dX12_startAnew_1 : decode cX12_startAnew 1 = .ok (.istore_n 1, 1) := by decide +kernel
theorem dX12_startAnew_2 : decode cX12_startAnew 2 = .ok (.iload_n 1, 1) := by decide +kernel
theorem dX12_startAnew_3 : decode cX12_startAnew 3 = .ok (.bipush 15, 2) := by decide +kernel
theorem dX12_startAnew_5 : decode cX12_startAnew 5 = .ok (.if_icmp .ge 16, 3) := by decide +kernel
theorem dX12_startAnew_8 : decode cX12_startAnew 8 = .ok (.aload_n 0, 1) := by decide +kernel
theorem dX12_startAnew_9 : decode cX12_startAnew 9 = .ok (.getfield 92, 3) := by decide +kernel
theorem dX12_startAnew_12 : decode cX12_startAnew 12 = .ok (.iload_n 1, 1) := by decide +kernel
theorem dX12_startAnew_13 : decode cX12_startAnew 13 = .ok (.iconst 0, 1) := by decide +kernel
theorem dX12_startAnew_14 : decode cX12_startAnew 14 = .ok (.iastore, 1) := by decide +kernel
theorem dX12_startAnew_15 : decode cX12_startAnew 15 = .ok (.iinc 1 1, 3) := by decide +kernel
theorem dX12_startAnew_18 : decode cX12_startAnew 18 = .ok (.goto (-16), 3) := by decide +kernel
theorem dX12_startAnew_21 : decode cX12_startAnew 21 = .ok (.iconst 0, 1) := by decide +kernel
theorem dX12_startAnew_22 : decode cX12_startAnew 22 = .ok (.istore_n 1, 1) := by decide +kernel
theorem dX12_startAnew_23 : decode cX12_startAnew 23 = .ok (.iload_n 1, 1) := by decide +kernel
theorem dX12_startAnew_24 : decode cX12_startAnew 24 = .ok (.aload_n 0, 1) := by decide +kernel
theorem dX12_startAnew_25 : decode cX12_startAnew 25 = .ok (.getfield 36, 3) := by decide +kernel
theorem dX12_startAnew_28 : decode cX12_startAnew 28 = .ok (.aload_n 0, 1) := by decide +kernel
theorem dX12_startAnew_29 : decode cX12_startAnew 29 = .ok (.getfield 274, 3) := by decide +kernel
theorem dX12_startAnew_32 : decode cX12_startAnew 32 = .ok (.iaload, 1) := by decide +kernel
theorem dX12_startAnew_33 : decode cX12_startAnew 33 = .ok (.if_icmp .ge 31, 3) := by decide +kernel
theorem dX12_startAnew_64 : decode cX12_startAnew 64 = .ok (.aload_n 0, 1) := by decide +kernel
theorem dX12_startAnew_65 : decode cX12_startAnew 65 = .ok (.getfield 92, 3) := by decide +kernel
theorem dX12_startAnew_68 : decode cX12_startAnew 68 = .ok (.bipush 12, 2) := by decide +kernel
theorem dX12_startAnew_70 : decode cX12_startAnew 70 = .ok (.aload_n 0, 1) := by decide +kernel
theorem dX12_startAnew_71 : decode cX12_startAnew 71 = .ok (.getfield 36, 3) := by decide +kernel
theorem dX12_startAnew_74 : decode cX12_startAnew 74 = .ok (.aload_n 0, 1) := by decide +kernel
theorem dX12_startAnew_75 : decode cX12_startAnew 75 = .ok (.getfield 274, 3) := by decide +kernel
theorem dX12_startAnew_78 : decode cX12_startAnew 78 = .ok (.iaload, 1) := by decide +kernel
theorem dX12_startAnew_79 : decode cX12_startAnew 79 = .ok (.iastore, 1) := by decide +kernel
theorem dX12_startAnew_80 : decode cX12_startAnew 80 = .ok (.aload_n 0, 1) := by decide +kernel
theorem dX12_startAnew_81 : decode cX12_startAnew 81 = .ok (.getfield 92, 3) := by decide +kernel
theorem dX12_startAnew_84 : decode cX12_startAnew 84 = .ok (.bipush 14, 2) := by decide +kernel
theorem dX12_startAnew_86 : decode cX12_startAnew 86 = .ok (.aload_n 0, 1) := by decide +kernel
theorem dX12_startAnew_87 : decode cX12_startAnew 87 = .ok (.getfield 33, 3) := by decide +kernel
theorem dX12_startAnew_90 : decode cX12_startAnew 90 = .ok (.aload_n 0, 1) := by decide +kernel
theorem dX12_startAnew_91 : decode cX12_startAnew 91 = .ok (.getfield 274, 3) := by decide +kernel
theorem dX12_startAnew_94 : decode cX12_startAnew 94 = .ok (.iaload, 1) := by decide +kernel
theorem dX12_startAnew_95 : decode cX12_startAnew 95 = .ok (.iastore, 1) := by decide +kernel
theorem dX12_startAnew_96 : decode cX12_startAnew 96 = .ok (.aload_n 0, 1) := by decide +kernel
theorem dX12_startAnew_97 : decode cX12_startAnew 97 = .ok (.iconst 0, 1) := by decide +kernel
theorem dX12_startAnew_98 : decode cX12_startAnew 98 = .ok (.putfield 366, 3) := by decide +kernel
theorem dX12_startAnew_101 : decode cX12_startAnew 101 = .ok (.aload_n 0, 1) := by decide +kernel
theorem dX12_startAnew_102 : decode cX12_startAnew 102 = .ok (.iconst 0, 1) := by decide +kernel
theorem dX12_startAnew_103 : decode cX12_startAnew 103 = .ok (.putfield 369, 3) := by decide +kernel
theorem dX12_startAnew_106 : decode cX12_startAnew 106 = .ok (.aload_n 0, 1) := by decide +kernel
theorem dX12_startAnew_107 : decode cX12_startAnew 107 = .ok (.iconst 0, 1) := by decide +kernel
theorem dX12_startAnew_108 : decode cX12_startAnew 108 = .ok (.putfield 372, 3) := by decide +kernel
theorem dX12_startAnew_111 : decode cX12_startAnew 111 = .ok (.aload_n 0, 1) := by decide +kernel
theorem dX12_startAnew_112 : decode cX12_startAnew 112 = .ok (.iconst 0, 1) := by decide +kernel
theorem dX12_startAnew_113 : decode cX12_startAnew 113 = .ok (.putfield 375, 3) := by decide +kernel
theorem dX12_startAnew_116 : decode cX12_startAnew 116 = .ok (.iconst 0, 1) := by decide +kernel
theorem dX12_startAnew_117 : decode cX12_startAnew 117 = .ok (.istore_n 1, 1) := by decide +kernel
theorem dX12_startAnew_118 : decode cX12_startAnew 118 = .ok (.iload_n 1, 1) := by decide +kernel
theorem dX12_startAnew_119 : decode cX12_startAnew 119 = .ok (.iconst 3, 1) := by decide +kernel
theorem dX12_startAnew_120 : decode cX12_startAnew 120 = .ok (.if_icmp .ge 16, 3) := by decide +kernel
theorem dX12_startAnew_123 : decode cX12_startAnew 123 = .ok (.aload_n 0, 1) := by decide +kernel
theorem dX12_startAnew_124 : decode cX12_startAnew 124 = .ok (.getfield 158, 3) := by decide +kernel
theorem dX12_startAnew_127 : decode cX12_startAnew 127 = .ok (.iload_n 1, 1) := by decide +kernel
theorem dX12_startAnew_128 : decode cX12_startAnew 128 = .ok (.iconst 0, 1) := by decide +kernel
theorem dX12_startAnew_129 : decode cX12_startAnew 129 = .ok (.bastore, 1) := by decide +kernel
theorem dX12_startAnew_130 : decode cX12_startAnew 130 = .ok (.iinc 1 1, 3) := by decide +kernel
theorem dX12_startAnew_133 : decode cX12_startAnew 133 = .ok (.goto (-15), 3) := by decide +kernel
theorem dX12_startAnew_136 : decode cX12_startAnew 136 = .ok (.return_, 1) := by decide +kernel
theorem dX12_longOf_0 : decode cX12_longOf 0 = .ok (.iload_n 1, 1) := by decide +kernel
theorem dX12_longOf_1 : decode cX12_longOf 1 = .ok (.iconst (-1), 1) := by decide +kernel
theorem dX12_longOf_2 : decode cX12_longOf 2 = .ok (.if_icmp .ne 13, 3) := by decide +kernel
theorem dX12_longOf_5 : decode cX12_longOf 5 = .ok (.aload_n 0, 1) := by decide +kernel
theorem dX12_longOf_6 : decode cX12_longOf 6 = .ok (.getfield 92, 3) := by decide +kernel
theorem dX12_longOf_9 : decode cX12_longOf 9 = .ok (.bipush 12, 2) := by decide +kernel
theorem dX12_longOf_11 : decode cX12_longOf 11 = .ok (.iaload, 1) := by decide +kernel
theorem dX12_longOf_12 : decode cX12_longOf 12 = .ok (.goto 16, 3) := by decide +kernel
theorem dX12_longOf_28 : decode cX12_longOf 28 = .ok (.ireturn, 1) := by decide +kernel
theorem dX12_layOne_0 : decode cX12_layOne 0 = .ok (.aload_n 0, 1) := by decide +kernel
theorem dX12_layOne_1 : decode cX12_layOne 1 = .ok (.aload_n 0, 1) := by decide +kernel
theorem dX12_layOne_2 : decode cX12_layOne 2 = .ok (.iload_n 1, 1) := by decide +kernel
theorem dX12_layOne_3 : decode cX12_layOne 3 = .ok (.invokevirtual 381, 3) := by decide +kernel
theorem dX12_layOne_6 : decode cX12_layOne 6 = .ok (.putfield 384, 3) := by decide +kernel
theorem dX12_layOne_9 : decode cX12_layOne 9 = .ok (.iconst 0, 1) := by decide +kernel
theorem dX12_layOne_10 : decode cX12_layOne 10 = .ok (.istore_n 2, 1) := by decide +kernel
theorem dX12_layOne_11 : decode cX12_layOne 11 = .ok (.iload_n 2, 1) := by decide +kernel
theorem dX12_layOne_12 : decode cX12_layOne 12 = .ok (.aload_n 0, 1) := by decide +kernel
theorem dX12_layOne_13 : decode cX12_layOne 13 = .ok (.getfield 384, 3) := by decide +kernel
theorem dX12_layOne_16 : decode cX12_layOne 16 = .ok (.if_icmp .ge 21, 3) := by decide +kernel
theorem dX12_layOne_37 : decode cX12_layOne 37 = .ok (.return_, 1) := by decide +kernel
theorem dX12_layTwo_0 : decode cX12_layTwo 0 = .ok (.aload_n 0, 1) := by decide +kernel
theorem dX12_layTwo_1 : decode cX12_layTwo 1 = .ok (.aload_n 0, 1) := by decide +kernel
theorem dX12_layTwo_2 : decode cX12_layTwo 2 = .ok (.iload_n 1, 1) := by decide +kernel
theorem dX12_layTwo_3 : decode cX12_layTwo 3 = .ok (.invokevirtual 381, 3) := by decide +kernel
theorem dX12_layTwo_6 : decode cX12_layTwo 6 = .ok (.putfield 390, 3) := by decide +kernel
theorem dX12_layTwo_9 : decode cX12_layTwo 9 = .ok (.iconst 0, 1) := by decide +kernel
theorem dX12_layTwo_10 : decode cX12_layTwo 10 = .ok (.istore_n 2, 1) := by decide +kernel
theorem dX12_layTwo_11 : decode cX12_layTwo 11 = .ok (.iload_n 2, 1) := by decide +kernel
theorem dX12_layTwo_12 : decode cX12_layTwo 12 = .ok (.aload_n 0, 1) := by decide +kernel
theorem dX12_layTwo_13 : decode cX12_layTwo 13 = .ok (.getfield 390, 3) := by decide +kernel
theorem dX12_layTwo_16 : decode cX12_layTwo 16 = .ok (.if_icmp .ge 21, 3) := by decide +kernel
theorem dX12_layTwo_37 : decode cX12_layTwo 37 = .ok (.return_, 1) := by decide +kernel
theorem dX12_senseOf_0 : decode cX12_senseOf 0 = .ok (.iconst 0, 1) := by decide +kernel
theorem dX12_senseOf_1 : decode cX12_senseOf 1 = .ok (.istore_n 3, 1) := by decide +kernel
theorem dX12_senseOf_2 : decode cX12_senseOf 2 = .ok (.iconst 1, 1) := by decide +kernel
theorem dX12_senseOf_3 : decode cX12_senseOf 3 = .ok (.istore 4, 2) := by decide +kernel
theorem dX12_senseOf_5 : decode cX12_senseOf 5 = .ok (.iload 4, 2) := by decide +kernel
theorem dX12_senseOf_7 : decode cX12_senseOf 7 = .ok (.iload_n 2, 1) := by decide +kernel
theorem dX12_senseOf_8 : decode cX12_senseOf 8 = .ok (.if_icmp .ge 26, 3) := by decide +kernel
theorem dX12_senseOf_34 : decode cX12_senseOf 34 = .ok (.iload_n 3, 1) := by decide +kernel
theorem dX12_senseOf_35 : decode cX12_senseOf 35 = .ok (.ireturn, 1) := by decide +kernel
theorem dX12_markOf_0 : decode cX12_markOf 0 = .ok (.iconst 0, 1) := by decide +kernel
theorem dX12_markOf_1 : decode cX12_markOf 1 = .ok (.istore_n 3, 1) := by decide +kernel
theorem dX12_markOf_2 : decode cX12_markOf 2 = .ok (.iconst 0, 1) := by decide +kernel
theorem dX12_markOf_3 : decode cX12_markOf 3 = .ok (.istore 4, 2) := by decide +kernel
theorem dX12_markOf_5 : decode cX12_markOf 5 = .ok (.iload 4, 2) := by decide +kernel
theorem dX12_markOf_7 : decode cX12_markOf 7 = .ok (.iload_n 2, 1) := by decide +kernel
theorem dX12_markOf_8 : decode cX12_markOf 8 = .ok (.if_icmp .ge 34, 3) := by decide +kernel
theorem dX12_markOf_42 : decode cX12_markOf 42 = .ok (.iload_n 3, 1) := by decide +kernel
theorem dX12_markOf_43 : decode cX12_markOf 43 = .ok (.bipush 100, 2) := by decide +kernel
theorem dX12_markOf_45 : decode cX12_markOf 45 = .ok (.irem, 1) := by decide +kernel
theorem dX12_markOf_46 : decode cX12_markOf 46 = .ok (.ireturn, 1) := by decide +kernel
theorem dX12_word_0 : decode cX12_word 0 = .ok (.aload_n 0, 1) := by decide +kernel
theorem dX12_word_1 : decode cX12_word 1 = .ok (.iload_n 1, 1) := by decide +kernel
theorem dX12_word_2 : decode cX12_word 2 = .ok (.invokevirtual 393, 3) := by decide +kernel
theorem dX12_word_5 : decode cX12_word 5 = .ok (.ifCond .eq 14, 3) := by decide +kernel
theorem dX12_word_19 : decode cX12_word 19 = .ok (.iconst (-1), 1) := by decide +kernel
theorem dX12_word_20 : decode cX12_word 20 = .ok (.ireturn, 1) := by decide +kernel
theorem dX12_slip_0 : decode cX12_slip 0 = .ok (.aload_n 0, 1) := by decide +kernel
theorem dX12_slip_1 : decode cX12_slip 1 = .ok (.iload_n 1, 1) := by decide +kernel
theorem dX12_slip_2 : decode cX12_slip 2 = .ok (.invokevirtual 363, 3) := by decide +kernel
theorem dX12_slip_5 : decode cX12_slip 5 = .ok (.ifCond .eq 27, 3) := by decide +kernel
theorem dX12_slip_32 : decode cX12_slip 32 = .ok (.iconst (-1), 1) := by decide +kernel
theorem dX12_slip_33 : decode cX12_slip 33 = .ok (.ireturn, 1) := by decide +kernel
theorem dX12_size_0 : decode cX12_size 0 = .ok (.aload_n 0, 1) := by decide +kernel
theorem dX12_size_1 : decode cX12_size 1 = .ok (.iload_n 1, 1) := by decide +kernel
theorem dX12_size_2 : decode cX12_size 2 = .ok (.invokevirtual 396, 3) := by decide +kernel
theorem dX12_size_5 : decode cX12_size 5 = .ok (.ifCond .eq 11, 3) := by decide +kernel
theorem dX12_size_8 : decode cX12_size 8 = .ok (.aload_n 0, 1) := by decide +kernel
theorem dX12_size_9 : decode cX12_size 9 = .ok (.iload_n 1, 1) := by decide +kernel
theorem dX12_size_10 : decode cX12_size 10 = .ok (.invokevirtual 381, 3) := by decide +kernel
theorem dX12_size_13 : decode cX12_size 13 = .ok (.goto 4, 3) := by decide +kernel
theorem dX12_size_16 : decode cX12_size 16 = .ok (.iconst (-1), 1) := by decide +kernel
theorem dX12_size_17 : decode cX12_size 17 = .ok (.ireturn, 1) := by decide +kernel
theorem dX12_worth_0 : decode cX12_worth 0 = .ok (.aload_n 0, 1) := by decide +kernel
theorem dX12_worth_1 : decode cX12_worth 1 = .ok (.iload_n 1, 1) := by decide +kernel
theorem dX12_worth_2 : decode cX12_worth 2 = .ok (.invokevirtual 399, 3) := by decide +kernel
theorem dX12_worth_5 : decode cX12_worth 5 = .ok (.ifCond .eq 20, 3) := by decide +kernel
theorem dX12_worth_25 : decode cX12_worth 25 = .ok (.iconst (-1), 1) := by decide +kernel
theorem dX12_worth_26 : decode cX12_worth 26 = .ok (.ireturn, 1) := by decide +kernel
theorem dX12_beside_0 : decode cX12_beside 0 = .ok (.aload_n 0, 1) := by decide +kernel
theorem dX12_beside_1 : decode cX12_beside 1 = .ok (.iload_n 1, 1) := by decide +kernel
theorem dX12_beside_2 : decode cX12_beside 2 = .ok (.invokevirtual 399, 3) := by decide +kernel
theorem dX12_beside_5 : decode cX12_beside 5 = .ok (.ifCond .eq 20, 3) := by decide +kernel
theorem dX12_beside_25 : decode cX12_beside 25 = .ok (.ldc_w 402, 3) := by decide +kernel
theorem dX12_beside_28 : decode cX12_beside 28 = .ok (.ireturn, 1) := by decide +kernel
theorem dX12_sense_0 : decode cX12_sense 0 = .ok (.aload_n 0, 1) := by decide +kernel
theorem dX12_sense_1 : decode cX12_sense 1 = .ok (.iload_n 1, 1) := by decide +kernel
theorem dX12_sense_2 : decode cX12_sense 2 = .ok (.invokevirtual 396, 3) := by decide +kernel
theorem dX12_sense_5 : decode cX12_sense 5 = .ok (.ifCond .ne 7, 3) := by decide +kernel
theorem dX12_sense_8 : decode cX12_sense 8 = .ok (.ldc_w 402, 3) := by decide +kernel
theorem dX12_sense_11 : decode cX12_sense 11 = .ok (.ireturn, 1) := by decide +kernel
theorem dX12_sense_12 : decode cX12_sense 12 = .ok (.aload_n 0, 1) := by decide +kernel
theorem dX12_sense_13 : decode cX12_sense 13 = .ok (.iload_n 1, 1) := by decide +kernel
theorem dX12_sense_14 : decode cX12_sense 14 = .ok (.invokevirtual 403, 3) := by decide +kernel
theorem dX12_sense_17 : decode cX12_sense 17 = .ok (.aload_n 0, 1) := by decide +kernel
theorem dX12_sense_18 : decode cX12_sense 18 = .ok (.aload_n 0, 1) := by decide +kernel
theorem dX12_sense_19 : decode cX12_sense 19 = .ok (.getfield 95, 3) := by decide +kernel
theorem dX12_sense_22 : decode cX12_sense 22 = .ok (.aload_n 0, 1) := by decide +kernel
theorem dX12_sense_23 : decode cX12_sense 23 = .ok (.getfield 384, 3) := by decide +kernel
theorem dX12_sense_26 : decode cX12_sense 26 = .ok (.invokevirtual 406, 3) := by decide +kernel
theorem dX12_sense_29 : decode cX12_sense 29 = .ok (.ireturn, 1) := by decide +kernel
theorem dX12_miss_0 : decode cX12_miss 0 = .ok (.aload_n 0, 1) := by decide +kernel
theorem dX12_miss_1 : decode cX12_miss 1 = .ok (.iload_n 1, 1) := by decide +kernel
theorem dX12_miss_2 : decode cX12_miss 2 = .ok (.invokevirtual 393, 3) := by decide +kernel
theorem dX12_miss_5 : decode cX12_miss 5 = .ok (.ifCond .eq 11, 3) := by decide +kernel
theorem dX12_miss_16 : decode cX12_miss 16 = .ok (.ldc_w 402, 3) := by decide +kernel
theorem dX12_miss_19 : decode cX12_miss 19 = .ok (.ireturn, 1) := by decide +kernel
theorem dX12_missedBy_0 : decode cX12_missedBy 0 = .ok (.iconst (-1), 1) := by decide +kernel
theorem dX12_missedBy_1 : decode cX12_missedBy 1 = .ok (.istore_n 2, 1) := by decide +kernel
theorem dX12_missedBy_2 : decode cX12_missedBy 2 = .ok (.iconst 0, 1) := by decide +kernel
theorem dX12_missedBy_3 : decode cX12_missedBy 3 = .ok (.istore_n 3, 1) := by decide +kernel
theorem dX12_missedBy_4 : decode cX12_missedBy 4 = .ok (.iconst 0, 1) := by decide +kernel
theorem dX12_missedBy_5 : decode cX12_missedBy 5 = .ok (.istore 4, 2) := by decide +kernel
theorem dX12_missedBy_7 : decode cX12_missedBy 7 = .ok (.iload 4, 2) := by decide +kernel
theorem dX12_missedBy_9 : decode cX12_missedBy 9 = .ok (.aload_n 0, 1) := by decide +kernel
theorem dX12_missedBy_10 : decode cX12_missedBy 10 = .ok (.getfield 92, 3) := by decide +kernel
theorem dX12_missedBy_13 : decode cX12_missedBy 13 = .ok (.bipush 12, 2) := by decide +kernel
theorem dX12_missedBy_15 : decode cX12_missedBy 15 = .ok (.iaload, 1) := by decide +kernel
theorem dX12_missedBy_16 : decode cX12_missedBy 16 = .ok (.if_icmp .ge 49, 3) := by decide +kernel
theorem dX12_missedBy_65 : decode cX12_missedBy 65 = .ok (.iload_n 2, 1) := by decide +kernel
theorem dX12_missedBy_66 : decode cX12_missedBy 66 = .ok (.ireturn, 1) := by decide +kernel
theorem dX12_missed_0 : decode cX12_missed 0 = .ok (.iload_n 1, 1) := by decide +kernel
theorem dX12_missed_1 : decode cX12_missed 1 = .ok (.iconst 0, 1) := by decide +kernel
theorem dX12_missed_2 : decode cX12_missed 2 = .ok (.iconst 1, 1) := by decide +kernel
theorem dX12_missed_3 : decode cX12_missed 3 = .ok (.invokestatic 359, 3) := by decide +kernel
theorem dX12_missed_6 : decode cX12_missed 6 = .ok (.ifCond .eq 11, 3) := by decide +kernel
theorem dX12_missed_9 : decode cX12_missed 9 = .ok (.aload_n 0, 1) := by decide +kernel
theorem dX12_missed_10 : decode cX12_missed 10 = .ok (.iload_n 1, 1) := by decide +kernel
theorem dX12_missed_11 : decode cX12_missed 11 = .ok (.invokevirtual 413, 3) := by decide +kernel
theorem dX12_missed_14 : decode cX12_missed 14 = .ok (.goto 4, 3) := by decide +kernel
theorem dX12_missed_17 : decode cX12_missed 17 = .ok (.iconst (-1), 1) := by decide +kernel
theorem dX12_missed_18 : decode cX12_missed 18 = .ok (.ireturn, 1) := by decide +kernel
theorem dX12_lacks_0 : decode cX12_lacks 0 = .ok (.aload_n 0, 1) := by decide +kernel
theorem dX12_lacks_1 : decode cX12_lacks 1 = .ok (.iload_n 1, 1) := by decide +kernel
theorem dX12_lacks_2 : decode cX12_lacks 2 = .ok (.invokevirtual 363, 3) := by decide +kernel
theorem dX12_lacks_5 : decode cX12_lacks 5 = .ok (.ifCond .ne 5, 3) := by decide +kernel
theorem dX12_lacks_8 : decode cX12_lacks 8 = .ok (.iconst (-1), 1) := by decide +kernel
theorem dX12_lacks_9 : decode cX12_lacks 9 = .ok (.ireturn, 1) := by decide +kernel
theorem dX12_isRule_0 : decode cX12_isRule 0 = .ok (.iload_n 0, 1) := by decide +kernel
theorem dX12_isRule_1 : decode cX12_isRule 1 = .ok (.ifCond .lt 12, 3) := by decide +kernel
theorem dX12_isRule_4 : decode cX12_isRule 4 = .ok (.iload_n 0, 1) := by decide +kernel
theorem dX12_isRule_5 : decode cX12_isRule 5 = .ok (.iconst 2, 1) := by decide +kernel
theorem dX12_isRule_6 : decode cX12_isRule 6 = .ok (.if_icmp .gt 7, 3) := by decide +kernel
theorem dX12_isRule_9 : decode cX12_isRule 9 = .ok (.iconst 1, 1) := by decide +kernel
theorem dX12_isRule_10 : decode cX12_isRule 10 = .ok (.goto 4, 3) := by decide +kernel
theorem dX12_isRule_13 : decode cX12_isRule 13 = .ok (.iconst 0, 1) := by decide +kernel
theorem dX12_isRule_14 : decode cX12_isRule 14 = .ok (.ireturn, 1) := by decide +kernel
theorem dX12_round_0 : decode cX12_round 0 = .ok (.iload_n 1, 1) := by decide +kernel
theorem dX12_round_1 : decode cX12_round 1 = .ok (.invokestatic 419, 3) := by decide +kernel
theorem dX12_round_4 : decode cX12_round 4 = .ok (.ifCond .eq 26, 3) := by decide +kernel
theorem dX12_round_7 : decode cX12_round 7 = .ok (.aload_n 0, 1) := by decide +kernel
theorem dX12_round_8 : decode cX12_round 8 = .ok (.getfield 92, 3) := by decide +kernel
theorem dX12_round_11 : decode cX12_round 11 = .ok (.bipush 12, 2) := by decide +kernel
theorem dX12_round_13 : decode cX12_round 13 = .ok (.iaload, 1) := by decide +kernel
theorem dX12_round_14 : decode cX12_round 14 = .ok (.ifCond .eq 16, 3) := by decide +kernel
theorem dX12_round_30 : decode cX12_round 30 = .ok (.iconst (-1), 1) := by decide +kernel
theorem dX12_round_31 : decode cX12_round 31 = .ok (.ireturn, 1) := by decide +kernel
theorem dX12_leave_0 : decode cX12_leave 0 = .ok (.aload_n 0, 1) := by decide +kernel
theorem dX12_leave_1 : decode cX12_leave 1 = .ok (.iload_n 1, 1) := by decide +kernel
theorem dX12_leave_2 : decode cX12_leave 2 = .ok (.invokevirtual 393, 3) := by decide +kernel
theorem dX12_leave_5 : decode cX12_leave 5 = .ok (.ifCond .ne 5, 3) := by decide +kernel
theorem dX12_leave_8 : decode cX12_leave 8 = .ok (.iconst (-1), 1) := by decide +kernel
theorem dX12_leave_9 : decode cX12_leave 9 = .ok (.ireturn, 1) := by decide +kernel
theorem dX12_put_0 : decode cX12_put 0 = .ok (.iload_n 1, 1) := by decide +kernel
theorem dX12_put_1 : decode cX12_put 1 = .ok (.iconst 0, 1) := by decide +kernel
theorem dX12_put_2 : decode cX12_put 2 = .ok (.aload_n 0, 1) := by decide +kernel
theorem dX12_put_3 : decode cX12_put 3 = .ok (.getfield 92, 3) := by decide +kernel
theorem dX12_put_6 : decode cX12_put 6 = .ok (.bipush 12, 2) := by decide +kernel
theorem dX12_put_8 : decode cX12_put 8 = .ok (.iaload, 1) := by decide +kernel
theorem dX12_put_9 : decode cX12_put 9 = .ok (.invokestatic 359, 3) := by decide +kernel
theorem dX12_put_12 : decode cX12_put 12 = .ok (.ifCond .eq 23, 3) := by decide +kernel
theorem dX12_put_15 : decode cX12_put 15 = .ok (.aload_n 0, 1) := by decide +kernel
theorem dX12_put_16 : decode cX12_put 16 = .ok (.iload_n 2, 1) := by decide +kernel
theorem dX12_put_17 : decode cX12_put 17 = .ok (.invokevirtual 399, 3) := by decide +kernel
theorem dX12_put_20 : decode cX12_put 20 = .ok (.ifCond .eq 15, 3) := by decide +kernel
theorem dX12_put_35 : decode cX12_put 35 = .ok (.iconst (-1), 1) := by decide +kernel
theorem dX12_put_36 : decode cX12_put 36 = .ok (.ireturn, 1) := by decide +kernel
theorem dX12_change_0 : decode cX12_change 0 = .ok (.aload_n 0, 1) := by decide +kernel
theorem dX12_change_1 : decode cX12_change 1 = .ok (.iload_n 1, 1) := by decide +kernel
theorem dX12_change_2 : decode cX12_change 2 = .ok (.invokevirtual 393, 3) := by decide +kernel
theorem dX12_change_5 : decode cX12_change 5 = .ok (.ifCond .eq 23, 3) := by decide +kernel
theorem dX12_change_28 : decode cX12_change 28 = .ok (.iconst (-1), 1) := by decide +kernel
theorem dX12_change_29 : decode cX12_change 29 = .ok (.ireturn, 1) := by decide +kernel
theorem dX12_undo_0 : decode cX12_undo 0 = .ok (.aload_n 0, 1) := by decide +kernel
theorem dX12_undo_1 : decode cX12_undo 1 = .ok (.getfield 366, 3) := by decide +kernel
theorem dX12_undo_4 : decode cX12_undo 4 = .ok (.ifCond .ne 5, 3) := by decide +kernel
theorem dX12_undo_7 : decode cX12_undo 7 = .ok (.iconst 0, 1) := by decide +kernel
theorem dX12_undo_8 : decode cX12_undo 8 = .ok (.ireturn, 1) := by decide +kernel
theorem dX12_redo_0 : decode cX12_redo 0 = .ok (.aload_n 0, 1) := by decide +kernel
theorem dX12_redo_1 : decode cX12_redo 1 = .ok (.getfield 369, 3) := by decide +kernel
theorem dX12_redo_4 : decode cX12_redo 4 = .ok (.ifCond .ne 5, 3) := by decide +kernel
theorem dX12_redo_7 : decode cX12_redo 7 = .ok (.iconst 0, 1) := by decide +kernel
theorem dX12_redo_8 : decode cX12_redo 8 = .ok (.ireturn, 1) := by decide +kernel
theorem dX12_countWays_0 : decode cX12_countWays 0 = .ok (.iconst 0, 1) := by decide +kernel
theorem dX12_countWays_1 : decode cX12_countWays 1 = .ok (.istore_n 1, 1) := by decide +kernel
theorem dX12_countWays_2 : decode cX12_countWays 2 = .ok (.iload_n 1, 1) := by decide +kernel
theorem dX12_countWays_3 : decode cX12_countWays 3 = .ok (.aload_n 0, 1) := by decide +kernel
theorem dX12_countWays_4 : decode cX12_countWays 4 = .ok (.getfield 384, 3) := by decide +kernel
theorem dX12_countWays_7 : decode cX12_countWays 7 = .ok (.if_icmp .gt 24, 3) := by decide +kernel
theorem dX12_countWays_10 : decode cX12_countWays 10 = .ok (.aload_n 0, 1) := by decide +kernel
theorem dX12_countWays_11 : decode cX12_countWays 11 = .ok (.getfield 107, 3) := by decide +kernel
theorem dX12_countWays_14 : decode cX12_countWays 14 = .ok (.iload_n 1, 1) := by decide +kernel
theorem dX12_countWays_15 : decode cX12_countWays 15 = .ok (.iload_n 1, 1) := by decide +kernel
theorem dX12_countWays_16 : decode cX12_countWays 16 = .ok (.ifCond .ne 7, 3) := by decide +kernel
theorem dX12_countWays_19 : decode cX12_countWays 19 = .ok (.iconst 1, 1) := by decide +kernel
theorem dX12_countWays_20 : decode cX12_countWays 20 = .ok (.goto 4, 3) := by decide +kernel
theorem dX12_countWays_24 : decode cX12_countWays 24 = .ok (.iastore, 1) := by decide +kernel
theorem dX12_countWays_25 : decode cX12_countWays 25 = .ok (.iinc 1 1, 3) := by decide +kernel
theorem dX12_countWays_28 : decode cX12_countWays 28 = .ok (.goto (-26), 3) := by decide +kernel
theorem dX12_countWays_31 : decode cX12_countWays 31 = .ok (.iconst 0, 1) := by decide +kernel
theorem dX12_countWays_32 : decode cX12_countWays 32 = .ok (.istore_n 1, 1) := by decide +kernel
theorem dX12_countWays_33 : decode cX12_countWays 33 = .ok (.iload_n 1, 1) := by decide +kernel
theorem dX12_countWays_34 : decode cX12_countWays 34 = .ok (.aload_n 0, 1) := by decide +kernel
theorem dX12_countWays_35 : decode cX12_countWays 35 = .ok (.getfield 390, 3) := by decide +kernel
theorem dX12_countWays_38 : decode cX12_countWays 38 = .ok (.if_icmp .ge 58, 3) := by decide +kernel
theorem dX12_countWays_96 : decode cX12_countWays 96 = .ok (.aload_n 0, 1) := by decide +kernel
theorem dX12_countWays_97 : decode cX12_countWays 97 = .ok (.getfield 107, 3) := by decide +kernel
theorem dX12_countWays_100 : decode cX12_countWays 100 = .ok (.aload_n 0, 1) := by decide +kernel
theorem dX12_countWays_101 : decode cX12_countWays 101 = .ok (.getfield 384, 3) := by decide +kernel
theorem dX12_countWays_104 : decode cX12_countWays 104 = .ok (.iaload, 1) := by decide +kernel
theorem dX12_countWays_105 : decode cX12_countWays 105 = .ok (.ireturn, 1) := by decide +kernel
theorem dX12_ways_0 : decode cX12_ways 0 = .ok (.aload_n 0, 1) := by decide +kernel
theorem dX12_ways_1 : decode cX12_ways 1 = .ok (.iload_n 1, 1) := by decide +kernel
theorem dX12_ways_2 : decode cX12_ways 2 = .ok (.invokevirtual 396, 3) := by decide +kernel
theorem dX12_ways_5 : decode cX12_ways 5 = .ok (.ifCond .eq 11, 3) := by decide +kernel
theorem dX12_ways_8 : decode cX12_ways 8 = .ok (.aload_n 0, 1) := by decide +kernel
theorem dX12_ways_9 : decode cX12_ways 9 = .ok (.iload_n 2, 1) := by decide +kernel
theorem dX12_ways_10 : decode cX12_ways 10 = .ok (.invokevirtual 396, 3) := by decide +kernel
theorem dX12_ways_13 : decode cX12_ways 13 = .ok (.ifCond .ne 5, 3) := by decide +kernel
theorem dX12_ways_16 : decode cX12_ways 16 = .ok (.iconst (-1), 1) := by decide +kernel
theorem dX12_ways_17 : decode cX12_ways 17 = .ok (.ireturn, 1) := by decide +kernel
theorem dX12_ways_18 : decode cX12_ways 18 = .ok (.aload_n 0, 1) := by decide +kernel
theorem dX12_ways_19 : decode cX12_ways 19 = .ok (.iload_n 1, 1) := by decide +kernel
theorem dX12_ways_20 : decode cX12_ways 20 = .ok (.invokevirtual 403, 3) := by decide +kernel
theorem dX12_ways_23 : decode cX12_ways 23 = .ok (.aload_n 0, 1) := by decide +kernel
theorem dX12_ways_24 : decode cX12_ways 24 = .ok (.iload_n 2, 1) := by decide +kernel
theorem dX12_ways_25 : decode cX12_ways 25 = .ok (.invokevirtual 431, 3) := by decide +kernel
theorem dX12_ways_28 : decode cX12_ways 28 = .ok (.aload_n 0, 1) := by decide +kernel
theorem dX12_ways_29 : decode cX12_ways 29 = .ok (.invokevirtual 434, 3) := by decide +kernel
theorem dX12_ways_32 : decode cX12_ways 32 = .ok (.ireturn, 1) := by decide +kernel
theorem dX12_odds_0 : decode cX12_odds 0 = .ok (.aload_n 0, 1) := by decide +kernel
theorem dX12_odds_1 : decode cX12_odds 1 = .ok (.iload_n 1, 1) := by decide +kernel
theorem dX12_odds_2 : decode cX12_odds 2 = .ok (.invokevirtual 363, 3) := by decide +kernel
theorem dX12_odds_5 : decode cX12_odds 5 = .ok (.ifCond .eq 27, 3) := by decide +kernel
theorem dX12_odds_32 : decode cX12_odds 32 = .ok (.iconst (-1), 1) := by decide +kernel
theorem dX12_odds_33 : decode cX12_odds 33 = .ok (.ireturn, 1) := by decide +kernel
theorem dX12_lies_0 : decode cX12_lies 0 = .ok (.iload_n 1, 1) := by decide +kernel
theorem dX12_lies_1 : decode cX12_lies 1 = .ok (.iconst 0, 1) := by decide +kernel
theorem dX12_lies_2 : decode cX12_lies 2 = .ok (.aload_n 0, 1) := by decide +kernel
theorem dX12_lies_3 : decode cX12_lies 3 = .ok (.getfield 375, 3) := by decide +kernel
theorem dX12_lies_6 : decode cX12_lies 6 = .ok (.iconst 1, 1) := by decide +kernel
theorem dX12_lies_7 : decode cX12_lies 7 = .ok (.isub, 1) := by decide +kernel
theorem dX12_lies_8 : decode cX12_lies 8 = .ok (.invokestatic 359, 3) := by decide +kernel
theorem dX12_lies_11 : decode cX12_lies 11 = .ok (.ifCond .eq 12, 3) := by decide +kernel
theorem dX12_lies_23 : decode cX12_lies 23 = .ok (.iconst (-1), 1) := by decide +kernel
theorem dX12_lies_24 : decode cX12_lies 24 = .ok (.ireturn, 1) := by decide +kernel
theorem dX12_layBoth_0 : decode cX12_layBoth 0 = .ok (.aload_n 0, 1) := by decide +kernel
theorem dX12_layBoth_1 : decode cX12_layBoth 1 = .ok (.iload_n 1, 1) := by decide +kernel
theorem dX12_layBoth_2 : decode cX12_layBoth 2 = .ok (.invokevirtual 363, 3) := by decide +kernel
theorem dX12_layBoth_5 : decode cX12_layBoth 5 = .ok (.ifCond .eq 11, 3) := by decide +kernel
theorem dX12_layBoth_16 : decode cX12_layBoth 16 = .ok (.iconst 0, 1) := by decide +kernel
theorem dX12_layBoth_17 : decode cX12_layBoth 17 = .ok (.ireturn, 1) := by decide +kernel
theorem dX12_source_0 : decode cX12_source 0 = .ok (.aload_n 0, 1) := by decide +kernel
theorem dX12_source_1 : decode cX12_source 1 = .ok (.iconst 0, 1) := by decide +kernel
theorem dX12_source_2 : decode cX12_source 2 = .ok (.putfield 375, 3) := by decide +kernel
theorem dX12_source_5 : decode cX12_source 5 = .ok (.aload_n 0, 1) := by decide +kernel
theorem dX12_source_6 : decode cX12_source 6 = .ok (.iload_n 1, 1) := by decide +kernel
theorem dX12_source_7 : decode cX12_source 7 = .ok (.iload_n 2, 1) := by decide +kernel
theorem dX12_source_8 : decode cX12_source 8 = .ok (.invokevirtual 460, 3) := by decide +kernel
theorem dX12_source_11 : decode cX12_source 11 = .ok (.ifCond .eq 10, 3) := by decide +kernel
theorem dX12_source_21 : decode cX12_source 21 = .ok (.iconst (-1), 1) := by decide +kernel
theorem dX12_source_22 : decode cX12_source 22 = .ok (.ireturn, 1) := by decide +kernel
theorem dX12_sources_0 : decode cX12_sources 0 = .ok (.aload_n 0, 1) := by decide +kernel
theorem dX12_sources_1 : decode cX12_sources 1 = .ok (.iload_n 1, 1) := by decide +kernel
theorem dX12_sources_2 : decode cX12_sources 2 = .ok (.iload_n 2, 1) := by decide +kernel
theorem dX12_sources_3 : decode cX12_sources 3 = .ok (.invokevirtual 460, 3) := by decide +kernel
theorem dX12_sources_6 : decode cX12_sources 6 = .ok (.ifCond .ne 5, 3) := by decide +kernel
theorem dX12_sources_9 : decode cX12_sources 9 = .ok (.iconst (-1), 1) := by decide +kernel
theorem dX12_sources_10 : decode cX12_sources 10 = .ok (.ireturn, 1) := by decide +kernel
theorem dX12_three_0 : decode cX12_three 0 = .ok (.aload_n 0, 1) := by decide +kernel
theorem dX12_three_1 : decode cX12_three 1 = .ok (.iconst 0, 1) := by decide +kernel
theorem dX12_three_2 : decode cX12_three 2 = .ok (.putfield 375, 3) := by decide +kernel
theorem dX12_three_5 : decode cX12_three 5 = .ok (.aload_n 0, 1) := by decide +kernel
theorem dX12_three_6 : decode cX12_three 6 = .ok (.iload_n 3, 1) := by decide +kernel
theorem dX12_three_7 : decode cX12_three 7 = .ok (.invokevirtual 363, 3) := by decide +kernel
theorem dX12_three_10 : decode cX12_three 10 = .ok (.ifCond .eq 12, 3) := by decide +kernel
theorem dX12_three_22 : decode cX12_three 22 = .ok (.iconst (-1), 1) := by decide +kernel
theorem dX12_three_23 : decode cX12_three 23 = .ok (.ireturn, 1) := by decide +kernel
theorem dX12_common_0 : decode cX12_common 0 = .ok (.aload_n 0, 1) := by decide +kernel
theorem dX12_common_1 : decode cX12_common 1 = .ok (.iconst 0, 1) := by decide +kernel
theorem dX12_common_2 : decode cX12_common 2 = .ok (.putfield 375, 3) := by decide +kernel
theorem dX12_common_5 : decode cX12_common 5 = .ok (.aload_n 0, 1) := by decide +kernel
theorem dX12_common_6 : decode cX12_common 6 = .ok (.iload_n 1, 1) := by decide +kernel
theorem dX12_common_7 : decode cX12_common 7 = .ok (.iload_n 2, 1) := by decide +kernel
theorem dX12_common_8 : decode cX12_common 8 = .ok (.invokevirtual 460, 3) := by decide +kernel
theorem dX12_common_11 : decode cX12_common 11 = .ok (.ifCond .ne 5, 3) := by decide +kernel
theorem dX12_common_14 : decode cX12_common 14 = .ok (.iconst (-1), 1) := by decide +kernel
theorem dX12_common_15 : decode cX12_common 15 = .ok (.ireturn, 1) := by decide +kernel
theorem dX12_strange_0 : decode cX12_strange 0 = .ok (.aload_n 0, 1) := by decide +kernel
theorem dX12_strange_1 : decode cX12_strange 1 = .ok (.iload_n 1, 1) := by decide +kernel
theorem dX12_strange_2 : decode cX12_strange 2 = .ok (.invokevirtual 363, 3) := by decide +kernel
theorem dX12_strange_5 : decode cX12_strange 5 = .ok (.ifCond .ne 5, 3) := by decide +kernel
theorem dX12_strange_8 : decode cX12_strange 8 = .ok (.iconst (-1), 1) := by decide +kernel
theorem dX12_strange_9 : decode cX12_strange 9 = .ok (.ireturn, 1) := by decide +kernel
theorem dX12_apart_0 : decode cX12_apart 0 = .ok (.aload_n 0, 1) := by decide +kernel
theorem dX12_apart_1 : decode cX12_apart 1 = .ok (.iload_n 1, 1) := by decide +kernel
theorem dX12_apart_2 : decode cX12_apart 2 = .ok (.invokevirtual 396, 3) := by decide +kernel
theorem dX12_apart_5 : decode cX12_apart 5 = .ok (.ifCond .eq 11, 3) := by decide +kernel
theorem dX12_apart_8 : decode cX12_apart 8 = .ok (.aload_n 0, 1) := by decide +kernel
theorem dX12_apart_9 : decode cX12_apart 9 = .ok (.iload_n 2, 1) := by decide +kernel
theorem dX12_apart_10 : decode cX12_apart 10 = .ok (.invokevirtual 396, 3) := by decide +kernel
theorem dX12_apart_13 : decode cX12_apart 13 = .ok (.ifCond .ne 5, 3) := by decide +kernel
theorem dX12_apart_16 : decode cX12_apart 16 = .ok (.iconst (-1), 1) := by decide +kernel
theorem dX12_apart_17 : decode cX12_apart 17 = .ok (.ireturn, 1) := by decide +kernel
theorem dX12_apart_18 : decode cX12_apart 18 = .ok (.aload_n 0, 1) := by decide +kernel
theorem dX12_apart_19 : decode cX12_apart 19 = .ok (.iload_n 1, 1) := by decide +kernel
theorem dX12_apart_20 : decode cX12_apart 20 = .ok (.invokevirtual 403, 3) := by decide +kernel
theorem dX12_apart_23 : decode cX12_apart 23 = .ok (.aload_n 0, 1) := by decide +kernel
theorem dX12_apart_24 : decode cX12_apart 24 = .ok (.iload_n 2, 1) := by decide +kernel
theorem dX12_apart_25 : decode cX12_apart 25 = .ok (.invokevirtual 431, 3) := by decide +kernel
theorem dX12_apart_28 : decode cX12_apart 28 = .ok (.aload_n 0, 1) := by decide +kernel
theorem dX12_apart_29 : decode cX12_apart 29 = .ok (.getfield 384, 3) := by decide +kernel
theorem dX12_apart_32 : decode cX12_apart 32 = .ok (.istore_n 3, 1) := by decide +kernel
theorem dX12_apart_33 : decode cX12_apart 33 = .ok (.iload_n 3, 1) := by decide +kernel
theorem dX12_apart_34 : decode cX12_apart 34 = .ok (.ifCond .lt 181, 3) := by decide +kernel
theorem dX12_apart_37 : decode cX12_apart 37 = .ok (.aload_n 0, 1) := by decide +kernel
theorem dX12_apart_38 : decode cX12_apart 38 = .ok (.getfield 390, 3) := by decide +kernel
theorem dX12_apart_41 : decode cX12_apart 41 = .ok (.istore 4, 2) := by decide +kernel
theorem dX12_apart_43 : decode cX12_apart 43 = .ok (.iload 4, 2) := by decide +kernel
theorem dX12_apart_45 : decode cX12_apart 45 = .ok (.ifCond .lt 164, 3) := by decide +kernel
theorem dX12_apart_48 : decode cX12_apart 48 = .ok (.aload_n 0, 1) := by decide +kernel
theorem dX12_apart_49 : decode cX12_apart 49 = .ok (.getfield 384, 3) := by decide +kernel
theorem dX12_apart_52 : decode cX12_apart 52 = .ok (.iload_n 3, 1) := by decide +kernel
theorem dX12_apart_53 : decode cX12_apart 53 = .ok (.isub, 1) := by decide +kernel
theorem dX12_apart_54 : decode cX12_apart 54 = .ok (.aload_n 0, 1) := by decide +kernel
theorem dX12_apart_55 : decode cX12_apart 55 = .ok (.getfield 390, 3) := by decide +kernel
theorem dX12_apart_58 : decode cX12_apart 58 = .ok (.iadd, 1) := by decide +kernel
theorem dX12_apart_59 : decode cX12_apart 59 = .ok (.iload 4, 2) := by decide +kernel
theorem dX12_apart_61 : decode cX12_apart 61 = .ok (.isub, 1) := by decide +kernel
theorem dX12_apart_62 : decode cX12_apart 62 = .ok (.istore 5, 2) := by decide +kernel
theorem dX12_apart_64 : decode cX12_apart 64 = .ok (.iload_n 3, 1) := by decide +kernel
theorem dX12_apart_65 : decode cX12_apart 65 = .ok (.aload_n 0, 1) := by decide +kernel
theorem dX12_apart_66 : decode cX12_apart 66 = .ok (.getfield 384, 3) := by decide +kernel
theorem dX12_apart_69 : decode cX12_apart 69 = .ok (.if_icmp .ge 120, 3) := by decide +kernel
theorem dX12_apart_189 : decode cX12_apart 189 = .ok (.aload_n 0, 1) := by decide +kernel
theorem dX12_apart_190 : decode cX12_apart 190 = .ok (.getfield 122, 3) := by decide +kernel
theorem dX12_apart_193 : decode cX12_apart 193 = .ok (.bipush 13, 2) := by decide +kernel
theorem dX12_apart_195 : decode cX12_apart 195 = .ok (.iload_n 3, 1) := by decide +kernel
theorem dX12_apart_196 : decode cX12_apart 196 = .ok (.imul, 1) := by decide +kernel
theorem dX12_apart_197 : decode cX12_apart 197 = .ok (.iload 4, 2) := by decide +kernel
theorem dX12_apart_199 : decode cX12_apart 199 = .ok (.iadd, 1) := by decide +kernel
theorem dX12_apart_200 : decode cX12_apart 200 = .ok (.iload 5, 2) := by decide +kernel
theorem dX12_apart_202 : decode cX12_apart 202 = .ok (.iastore, 1) := by decide +kernel
theorem dX12_apart_203 : decode cX12_apart 203 = .ok (.iinc 4 (-1), 3) := by decide +kernel
theorem dX12_apart_206 : decode cX12_apart 206 = .ok (.goto (-163), 3) := by decide +kernel
theorem dX12_apart_209 : decode cX12_apart 209 = .ok (.iinc 3 (-1), 3) := by decide +kernel
theorem dX12_apart_212 : decode cX12_apart 212 = .ok (.goto (-179), 3) := by decide +kernel
theorem dX12_apart_215 : decode cX12_apart 215 = .ok (.aload_n 0, 1) := by decide +kernel
theorem dX12_apart_216 : decode cX12_apart 216 = .ok (.getfield 122, 3) := by decide +kernel
theorem dX12_apart_219 : decode cX12_apart 219 = .ok (.iconst 0, 1) := by decide +kernel
theorem dX12_apart_220 : decode cX12_apart 220 = .ok (.iaload, 1) := by decide +kernel
theorem dX12_apart_221 : decode cX12_apart 221 = .ok (.ireturn, 1) := by decide +kernel
theorem dX12_canLeave_0 : decode cX12_canLeave 0 = .ok (.iload_n 1, 1) := by decide +kernel
theorem dX12_canLeave_1 : decode cX12_canLeave 1 = .ok (.iconst 0, 1) := by decide +kernel
theorem dX12_canLeave_2 : decode cX12_canLeave 2 = .ok (.iconst 4, 1) := by decide +kernel
theorem dX12_canLeave_3 : decode cX12_canLeave 3 = .ok (.invokestatic 359, 3) := by decide +kernel
theorem dX12_canLeave_6 : decode cX12_canLeave 6 = .ok (.ifCond .eq 18, 3) := by decide +kernel
theorem dX12_canLeave_9 : decode cX12_canLeave 9 = .ok (.iload_n 1, 1) := by decide +kernel
theorem dX12_canLeave_10 : decode cX12_canLeave 10 = .ok (.aload_n 0, 1) := by decide +kernel
theorem dX12_canLeave_11 : decode cX12_canLeave 11 = .ok (.getfield 92, 3) := by decide +kernel
theorem dX12_canLeave_14 : decode cX12_canLeave 14 = .ok (.bipush 12, 2) := by decide +kernel
theorem dX12_canLeave_16 : decode cX12_canLeave 16 = .ok (.iaload, 1) := by decide +kernel
theorem dX12_canLeave_17 : decode cX12_canLeave 17 = .ok (.if_icmp .ge 7, 3) := by decide +kernel
theorem dX12_canLeave_24 : decode cX12_canLeave 24 = .ok (.iconst 0, 1) := by decide +kernel
theorem dX12_canLeave_25 : decode cX12_canLeave 25 = .ok (.ireturn, 1) := by decide +kernel
theorem dX12_keep_0 : decode cX12_keep 0 = .ok (.aload_n 0, 1) := by decide +kernel
theorem dX12_keep_1 : decode cX12_keep 1 = .ok (.iconst 0, 1) := by decide +kernel
theorem dX12_keep_2 : decode cX12_keep 2 = .ok (.putfield 375, 3) := by decide +kernel
theorem dX12_keep_5 : decode cX12_keep 5 = .ok (.aload_n 0, 1) := by decide +kernel
theorem dX12_keep_6 : decode cX12_keep 6 = .ok (.iload_n 1, 1) := by decide +kernel
theorem dX12_keep_7 : decode cX12_keep 7 = .ok (.invokevirtual 477, 3) := by decide +kernel
theorem dX12_keep_10 : decode cX12_keep 10 = .ok (.ifCond .eq 12, 3) := by decide +kernel
theorem dX12_keep_22 : decode cX12_keep 22 = .ok (.ldc_w 402, 3) := by decide +kernel
theorem dX12_keep_25 : decode cX12_keep 25 = .ok (.ireturn, 1) := by decide +kernel
theorem dX12_mean_0 : decode cX12_mean 0 = .ok (.aload_n 0, 1) := by decide +kernel
theorem dX12_mean_1 : decode cX12_mean 1 = .ok (.iload_n 1, 1) := by decide +kernel
theorem dX12_mean_2 : decode cX12_mean 2 = .ok (.invokevirtual 477, 3) := by decide +kernel
theorem dX12_mean_5 : decode cX12_mean 5 = .ok (.ifCond .eq 12, 3) := by decide +kernel
theorem dX12_mean_17 : decode cX12_mean 17 = .ok (.ldc_w 402, 3) := by decide +kernel
theorem dX12_mean_20 : decode cX12_mean 20 = .ok (.ireturn, 1) := by decide +kernel
theorem dX12_duel_0 : decode cX12_duel 0 = .ok (.iload_n 1, 1) := by decide +kernel
theorem dX12_duel_1 : decode cX12_duel 1 = .ok (.iconst 1, 1) := by decide +kernel
theorem dX12_duel_2 : decode cX12_duel 2 = .ok (.iconst 4, 1) := by decide +kernel
theorem dX12_duel_3 : decode cX12_duel 3 = .ok (.invokestatic 359, 3) := by decide +kernel
theorem dX12_duel_6 : decode cX12_duel 6 = .ok (.ifCond .eq 23, 3) := by decide +kernel
theorem dX12_duel_9 : decode cX12_duel 9 = .ok (.iload_n 1, 1) := by decide +kernel
theorem dX12_duel_10 : decode cX12_duel 10 = .ok (.aload_n 0, 1) := by decide +kernel
theorem dX12_duel_11 : decode cX12_duel 11 = .ok (.getfield 92, 3) := by decide +kernel
theorem dX12_duel_14 : decode cX12_duel 14 = .ok (.bipush 12, 2) := by decide +kernel
theorem dX12_duel_16 : decode cX12_duel 16 = .ok (.iaload, 1) := by decide +kernel
theorem dX12_duel_17 : decode cX12_duel 17 = .ok (.if_icmp .gt 12, 3) := by decide +kernel
theorem dX12_duel_29 : decode cX12_duel 29 = .ok (.ldc_w 402, 3) := by decide +kernel
theorem dX12_duel_32 : decode cX12_duel 32 = .ok (.ireturn, 1) := by decide +kernel
theorem dX12_keepNow_0 : decode cX12_keepNow 0 = .ok (.iconst 0, 1) := by decide +kernel
theorem dX12_keepNow_1 : decode cX12_keepNow 1 = .ok (.istore_n 1, 1) := by decide +kernel
theorem dX12_keepNow_2 : decode cX12_keepNow 2 = .ok (.iload_n 1, 1) := by decide +kernel
theorem dX12_keepNow_3 : decode cX12_keepNow 3 = .ok (.bipush 15, 2) := by decide +kernel
theorem dX12_keepNow_5 : decode cX12_keepNow 5 = .ok (.if_icmp .ge 21, 3) := by decide +kernel
theorem dX12_keepNow_8 : decode cX12_keepNow 8 = .ok (.aload_n 0, 1) := by decide +kernel
theorem dX12_keepNow_9 : decode cX12_keepNow 9 = .ok (.getfield 128, 3) := by decide +kernel
theorem dX12_keepNow_12 : decode cX12_keepNow 12 = .ok (.iload_n 1, 1) := by decide +kernel
theorem dX12_keepNow_13 : decode cX12_keepNow 13 = .ok (.aload_n 0, 1) := by decide +kernel
theorem dX12_keepNow_14 : decode cX12_keepNow 14 = .ok (.getfield 92, 3) := by decide +kernel
theorem dX12_keepNow_17 : decode cX12_keepNow 17 = .ok (.iload_n 1, 1) := by decide +kernel
theorem dX12_keepNow_18 : decode cX12_keepNow 18 = .ok (.iaload, 1) := by decide +kernel
theorem dX12_keepNow_19 : decode cX12_keepNow 19 = .ok (.iastore, 1) := by decide +kernel
theorem dX12_keepNow_20 : decode cX12_keepNow 20 = .ok (.iinc 1 1, 3) := by decide +kernel
theorem dX12_keepNow_23 : decode cX12_keepNow 23 = .ok (.goto (-21), 3) := by decide +kernel
theorem dX12_keepNow_26 : decode cX12_keepNow 26 = .ok (.return_, 1) := by decide +kernel
theorem dX12_bringBack_0 : decode cX12_bringBack 0 = .ok (.iconst 0, 1) := by decide +kernel
theorem dX12_bringBack_1 : decode cX12_bringBack 1 = .ok (.istore_n 1, 1) := by decide +kernel
theorem dX12_bringBack_2 : decode cX12_bringBack 2 = .ok (.iload_n 1, 1) := by decide +kernel
theorem dX12_bringBack_3 : decode cX12_bringBack 3 = .ok (.bipush 15, 2) := by decide +kernel
theorem dX12_bringBack_5 : decode cX12_bringBack 5 = .ok (.if_icmp .ge 21, 3) := by decide +kernel
theorem dX12_bringBack_8 : decode cX12_bringBack 8 = .ok (.aload_n 0, 1) := by decide +kernel
theorem dX12_bringBack_9 : decode cX12_bringBack 9 = .ok (.getfield 92, 3) := by decide +kernel
theorem dX12_bringBack_12 : decode cX12_bringBack 12 = .ok (.iload_n 1, 1) := by decide +kernel
theorem dX12_bringBack_13 : decode cX12_bringBack 13 = .ok (.aload_n 0, 1) := by decide +kernel
theorem dX12_bringBack_14 : decode cX12_bringBack 14 = .ok (.getfield 128, 3) := by decide +kernel
theorem dX12_bringBack_17 : decode cX12_bringBack 17 = .ok (.iload_n 1, 1) := by decide +kernel
theorem dX12_bringBack_18 : decode cX12_bringBack 18 = .ok (.iaload, 1) := by decide +kernel
theorem dX12_bringBack_19 : decode cX12_bringBack 19 = .ok (.iastore, 1) := by decide +kernel
theorem dX12_bringBack_20 : decode cX12_bringBack 20 = .ok (.iinc 1 1, 3) := by decide +kernel
theorem dX12_bringBack_23 : decode cX12_bringBack 23 = .ok (.goto (-21), 3) := by decide +kernel
theorem dX12_bringBack_26 : decode cX12_bringBack 26 = .ok (.return_, 1) := by decide +kernel
theorem dX12_becomes_0 : decode cX12_becomes 0 = .ok (.iload_n 1, 1) := by decide +kernel
theorem dX12_becomes_1 : decode cX12_becomes 1 = .ok (.invokestatic 419, 3) := by decide +kernel
theorem dX12_becomes_4 : decode cX12_becomes 4 = .ok (.ifCond .eq 11, 3) := by decide +kernel
theorem dX12_becomes_7 : decode cX12_becomes 7 = .ok (.aload_n 0, 1) := by decide +kernel
theorem dX12_becomes_8 : decode cX12_becomes 8 = .ok (.iload_n 2, 1) := by decide +kernel
theorem dX12_becomes_9 : decode cX12_becomes 9 = .ok (.invokevirtual 363, 3) := by decide +kernel
theorem dX12_becomes_12 : decode cX12_becomes 12 = .ok (.ifCond .ne 5, 3) := by decide +kernel
theorem dX12_becomes_15 : decode cX12_becomes 15 = .ok (.iconst (-1), 1) := by decide +kernel
theorem dX12_becomes_16 : decode cX12_becomes 16 = .ok (.ireturn, 1) := by decide +kernel
theorem dX12_will_0 : decode cX12_will 0 = .ok (.iload_n 1, 1) := by decide +kernel
theorem dX12_will_1 : decode cX12_will 1 = .ok (.invokestatic 419, 3) := by decide +kernel
theorem dX12_will_4 : decode cX12_will 4 = .ok (.ifCond .eq 13, 3) := by decide +kernel
theorem dX12_will_7 : decode cX12_will 7 = .ok (.iload_n 2, 1) := by decide +kernel
theorem dX12_will_8 : decode cX12_will 8 = .ok (.iconst 0, 1) := by decide +kernel
theorem dX12_will_9 : decode cX12_will 9 = .ok (.bipush 12, 2) := by decide +kernel
theorem dX12_will_11 : decode cX12_will 11 = .ok (.invokestatic 359, 3) := by decide +kernel
theorem dX12_will_14 : decode cX12_will 14 = .ok (.ifCond .ne 7, 3) := by decide +kernel
theorem dX12_will_17 : decode cX12_will 17 = .ok (.ldc_w 402, 3) := by decide +kernel
theorem dX12_will_20 : decode cX12_will 20 = .ok (.ireturn, 1) := by decide +kernel
theorem dX12_will_21 : decode cX12_will 21 = .ok (.aload_n 0, 1) := by decide +kernel
theorem dX12_will_22 : decode cX12_will 22 = .ok (.invokevirtual 495, 3) := by decide +kernel
theorem dX12_will_25 : decode cX12_will 25 = .ok (.iconst (-1), 1) := by decide +kernel
theorem dX12_will_26 : decode cX12_will 26 = .ok (.istore_n 3, 1) := by decide +kernel
theorem dX12_will_27 : decode cX12_will 27 = .ok (.iconst 0, 1) := by decide +kernel
theorem dX12_will_28 : decode cX12_will 28 = .ok (.istore 4, 2) := by decide +kernel
theorem dX12_will_30 : decode cX12_will 30 = .ok (.iload 4, 2) := by decide +kernel
theorem dX12_will_32 : decode cX12_will 32 = .ok (.iload_n 2, 1) := by decide +kernel
theorem dX12_will_33 : decode cX12_will 33 = .ok (.if_icmp .ge 25, 3) := by decide +kernel
theorem dX12_will_36 : decode cX12_will 36 = .ok (.aload_n 0, 1) := by decide +kernel
theorem dX12_will_37 : decode cX12_will 37 = .ok (.getfield 92, 3) := by decide +kernel
theorem dX12_will_40 : decode cX12_will 40 = .ok (.bipush 12, 2) := by decide +kernel
theorem dX12_will_42 : decode cX12_will 42 = .ok (.iaload, 1) := by decide +kernel
theorem dX12_will_43 : decode cX12_will 43 = .ok (.ifCond .le 15, 3) := by decide +kernel
theorem dX12_will_58 : decode cX12_will 58 = .ok (.aload_n 0, 1) := by decide +kernel
theorem dX12_will_59 : decode cX12_will 59 = .ok (.aload_n 0, 1) := by decide +kernel
theorem dX12_will_60 : decode cX12_will 60 = .ok (.getfield 92, 3) := by decide +kernel
theorem dX12_will_63 : decode cX12_will 63 = .ok (.aload_n 0, 1) := by decide +kernel
theorem dX12_will_64 : decode cX12_will 64 = .ok (.getfield 92, 3) := by decide +kernel
theorem dX12_will_67 : decode cX12_will 67 = .ok (.bipush 12, 2) := by decide +kernel
theorem dX12_will_69 : decode cX12_will 69 = .ok (.iaload, 1) := by decide +kernel
theorem dX12_will_70 : decode cX12_will 70 = .ok (.invokevirtual 406, 3) := by decide +kernel
theorem dX12_will_73 : decode cX12_will 73 = .ok (.istore 4, 2) := by decide +kernel
theorem dX12_will_75 : decode cX12_will 75 = .ok (.aload_n 0, 1) := by decide +kernel
theorem dX12_will_76 : decode cX12_will 76 = .ok (.invokevirtual 501, 3) := by decide +kernel
theorem dX12_will_79 : decode cX12_will 79 = .ok (.iload 4, 2) := by decide +kernel
theorem dX12_will_81 : decode cX12_will 81 = .ok (.ireturn, 1) := by decide +kernel
theorem dX12_last_0 : decode cX12_last 0 = .ok (.iload_n 1, 1) := by decide +kernel
theorem dX12_last_1 : decode cX12_last 1 = .ok (.invokestatic 419, 3) := by decide +kernel
theorem dX12_last_4 : decode cX12_last 4 = .ok (.ifCond .ne 5, 3) := by decide +kernel
theorem dX12_last_7 : decode cX12_last 7 = .ok (.iconst (-1), 1) := by decide +kernel
theorem dX12_last_8 : decode cX12_last 8 = .ok (.ireturn, 1) := by decide +kernel
theorem dX12_last_9 : decode cX12_last 9 = .ok (.aload_n 0, 1) := by decide +kernel
theorem dX12_last_10 : decode cX12_last 10 = .ok (.invokevirtual 495, 3) := by decide +kernel
theorem dX12_last_13 : decode cX12_last 13 = .ok (.iconst (-1), 1) := by decide +kernel
theorem dX12_last_14 : decode cX12_last 14 = .ok (.istore_n 2, 1) := by decide +kernel
theorem dX12_last_15 : decode cX12_last 15 = .ok (.aload_n 0, 1) := by decide +kernel
theorem dX12_last_16 : decode cX12_last 16 = .ok (.getfield 92, 3) := by decide +kernel
theorem dX12_last_19 : decode cX12_last 19 = .ok (.bipush 12, 2) := by decide +kernel
theorem dX12_last_21 : decode cX12_last 21 = .ok (.iaload, 1) := by decide +kernel
theorem dX12_last_22 : decode cX12_last 22 = .ok (.ifCond .le 12, 3) := by decide +kernel
theorem dX12_last_34 : decode cX12_last 34 = .ok (.aload_n 0, 1) := by decide +kernel
theorem dX12_last_35 : decode cX12_last 35 = .ok (.invokevirtual 501, 3) := by decide +kernel
theorem dX12_last_38 : decode cX12_last 38 = .ok (.iload_n 2, 1) := by decide +kernel
theorem dX12_last_39 : decode cX12_last 39 = .ok (.ireturn, 1) := by decide +kernel
theorem dX12_mark_0 : decode cX12_mark 0 = .ok (.aload_n 0, 1) := by decide +kernel
theorem dX12_mark_1 : decode cX12_mark 1 = .ok (.iload_n 1, 1) := by decide +kernel
theorem dX12_mark_2 : decode cX12_mark 2 = .ok (.invokevirtual 396, 3) := by decide +kernel
theorem dX12_mark_5 : decode cX12_mark 5 = .ok (.ifCond .ne 5, 3) := by decide +kernel
theorem dX12_mark_8 : decode cX12_mark 8 = .ok (.iconst (-1), 1) := by decide +kernel
theorem dX12_mark_9 : decode cX12_mark 9 = .ok (.ireturn, 1) := by decide +kernel
theorem dX12_mark_10 : decode cX12_mark 10 = .ok (.aload_n 0, 1) := by decide +kernel
theorem dX12_mark_11 : decode cX12_mark 11 = .ok (.iload_n 1, 1) := by decide +kernel
theorem dX12_mark_12 : decode cX12_mark 12 = .ok (.invokevirtual 403, 3) := by decide +kernel
theorem dX12_mark_15 : decode cX12_mark 15 = .ok (.aload_n 0, 1) := by decide +kernel
theorem dX12_mark_16 : decode cX12_mark 16 = .ok (.aload_n 0, 1) := by decide +kernel
theorem dX12_mark_17 : decode cX12_mark 17 = .ok (.getfield 95, 3) := by decide +kernel
theorem dX12_mark_20 : decode cX12_mark 20 = .ok (.aload_n 0, 1) := by decide +kernel
theorem dX12_mark_21 : decode cX12_mark 21 = .ok (.getfield 384, 3) := by decide +kernel
theorem dX12_mark_24 : decode cX12_mark 24 = .ok (.invokevirtual 504, 3) := by decide +kernel
theorem dX12_mark_27 : decode cX12_mark 27 = .ok (.ireturn, 1) := by decide +kernel
theorem dX12_mended_0 : decode cX12_mended 0 = .ok (.aload_n 0, 1) := by decide +kernel
theorem dX12_mended_1 : decode cX12_mended 1 = .ok (.iconst 0, 1) := by decide +kernel
theorem dX12_mended_2 : decode cX12_mended 2 = .ok (.putfield 375, 3) := by decide +kernel
theorem dX12_mended_5 : decode cX12_mended 5 = .ok (.aload_n 0, 1) := by decide +kernel
theorem dX12_mended_6 : decode cX12_mended 6 = .ok (.iload_n 1, 1) := by decide +kernel
theorem dX12_mended_7 : decode cX12_mended 7 = .ok (.invokevirtual 363, 3) := by decide +kernel
theorem dX12_mended_10 : decode cX12_mended 10 = .ok (.ifCond .eq 13, 3) := by decide +kernel
theorem dX12_mended_23 : decode cX12_mended 23 = .ok (.iconst (-1), 1) := by decide +kernel
theorem dX12_mended_24 : decode cX12_mended 24 = .ok (.ireturn, 1) := by decide +kernel
theorem dX12_safe_0 : decode cX12_safe 0 = .ok (.aload_n 0, 1) := by decide +kernel
theorem dX12_safe_1 : decode cX12_safe 1 = .ok (.iconst (-1), 1) := by decide +kernel
theorem dX12_safe_2 : decode cX12_safe 2 = .ok (.invokevirtual 403, 3) := by decide +kernel
theorem dX12_safe_5 : decode cX12_safe 5 = .ok (.aload_n 0, 1) := by decide +kernel
theorem dX12_safe_6 : decode cX12_safe 6 = .ok (.aload_n 0, 1) := by decide +kernel
theorem dX12_safe_7 : decode cX12_safe 7 = .ok (.getfield 95, 3) := by decide +kernel
theorem dX12_safe_10 : decode cX12_safe 10 = .ok (.aload_n 0, 1) := by decide +kernel
theorem dX12_safe_11 : decode cX12_safe 11 = .ok (.getfield 384, 3) := by decide +kernel
theorem dX12_safe_14 : decode cX12_safe 14 = .ok (.invokevirtual 504, 3) := by decide +kernel
theorem dX12_safe_17 : decode cX12_safe 17 = .ok (.istore_n 1, 1) := by decide +kernel
theorem dX12_safe_18 : decode cX12_safe 18 = .ok (.iconst 0, 1) := by decide +kernel
theorem dX12_safe_19 : decode cX12_safe 19 = .ok (.istore_n 2, 1) := by decide +kernel
theorem dX12_safe_20 : decode cX12_safe 20 = .ok (.iconst 0, 1) := by decide +kernel
theorem dX12_safe_21 : decode cX12_safe 21 = .ok (.istore_n 3, 1) := by decide +kernel
theorem dX12_safe_22 : decode cX12_safe 22 = .ok (.iload_n 3, 1) := by decide +kernel
theorem dX12_safe_23 : decode cX12_safe 23 = .ok (.aload_n 0, 1) := by decide +kernel
theorem dX12_safe_24 : decode cX12_safe 24 = .ok (.getfield 92, 3) := by decide +kernel
theorem dX12_safe_27 : decode cX12_safe 27 = .ok (.bipush 12, 2) := by decide +kernel
theorem dX12_safe_29 : decode cX12_safe 29 = .ok (.iaload, 1) := by decide +kernel
theorem dX12_safe_30 : decode cX12_safe 30 = .ok (.if_icmp .ge 32, 3) := by decide +kernel
theorem dX12_safe_62 : decode cX12_safe 62 = .ok (.iload_n 2, 1) := by decide +kernel
theorem dX12_safe_63 : decode cX12_safe 63 = .ok (.ireturn, 1) := by decide +kernel
theorem dX12_comes_0 : decode cX12_comes 0 = .ok (.aload_n 0, 1) := by decide +kernel
theorem dX12_comes_1 : decode cX12_comes 1 = .ok (.iload_n 1, 1) := by decide +kernel
theorem dX12_comes_2 : decode cX12_comes 2 = .ok (.invokevirtual 363, 3) := by decide +kernel
theorem dX12_comes_5 : decode cX12_comes 5 = .ok (.ifCond .ne 5, 3) := by decide +kernel
theorem dX12_comes_8 : decode cX12_comes 8 = .ok (.iconst (-1), 1) := by decide +kernel
theorem dX12_comes_9 : decode cX12_comes 9 = .ok (.ireturn, 1) := by decide +kernel
theorem dX12_layOrder_0 : decode cX12_layOrder 0 = .ok (.iload_n 1, 1) := by decide +kernel
theorem dX12_layOrder_1 : decode cX12_layOrder 1 = .ok (.istore_n 2, 1) := by decide +kernel
theorem dX12_layOrder_2 : decode cX12_layOrder 2 = .ok (.iconst 0, 1) := by decide +kernel
theorem dX12_layOrder_3 : decode cX12_layOrder 3 = .ok (.istore_n 3, 1) := by decide +kernel
theorem dX12_layOrder_4 : decode cX12_layOrder 4 = .ok (.aload_n 0, 1) := by decide +kernel
theorem dX12_layOrder_5 : decode cX12_layOrder 5 = .ok (.getfield 27, 3) := by decide +kernel
theorem dX12_layOrder_8 : decode cX12_layOrder 8 = .ok (.aload_n 0, 1) := by decide +kernel
theorem dX12_layOrder_9 : decode cX12_layOrder 9 = .ok (.getfield 274, 3) := by decide +kernel
theorem dX12_layOrder_12 : decode cX12_layOrder 12 = .ok (.iaload, 1) := by decide +kernel
theorem dX12_layOrder_13 : decode cX12_layOrder 13 = .ok (.iconst 1, 1) := by decide +kernel
theorem dX12_layOrder_14 : decode cX12_layOrder 14 = .ok (.isub, 1) := by decide +kernel
theorem dX12_layOrder_15 : decode cX12_layOrder 15 = .ok (.istore 4, 2) := by decide +kernel
theorem dX12_layOrder_17 : decode cX12_layOrder 17 = .ok (.iload 4, 2) := by decide +kernel
theorem dX12_layOrder_19 : decode cX12_layOrder 19 = .ok (.ifCond .lt 65, 3) := by decide +kernel
theorem dX12_layOrder_84 : decode cX12_layOrder 84 = .ok (.iload_n 3, 1) := by decide +kernel
theorem dX12_layOrder_85 : decode cX12_layOrder 85 = .ok (.iconst 1, 1) := by decide +kernel
theorem dX12_layOrder_86 : decode cX12_layOrder 86 = .ok (.aload_n 0, 1) := by decide +kernel
theorem dX12_layOrder_87 : decode cX12_layOrder 87 = .ok (.getfield 27, 3) := by decide +kernel
theorem dX12_layOrder_90 : decode cX12_layOrder 90 = .ok (.aload_n 0, 1) := by decide +kernel
theorem dX12_layOrder_91 : decode cX12_layOrder 91 = .ok (.getfield 274, 3) := by decide +kernel
theorem dX12_layOrder_94 : decode cX12_layOrder 94 = .ok (.iaload, 1) := by decide +kernel
theorem dX12_layOrder_95 : decode cX12_layOrder 95 = .ok (.ishl, 1) := by decide +kernel
theorem dX12_layOrder_96 : decode cX12_layOrder 96 = .ok (.iconst 1, 1) := by decide +kernel
theorem dX12_layOrder_97 : decode cX12_layOrder 97 = .ok (.isub, 1) := by decide +kernel
theorem dX12_layOrder_98 : decode cX12_layOrder 98 = .ok (.if_icmp .eq 5, 3) := by decide +kernel
theorem dX12_layOrder_103 : decode cX12_layOrder 103 = .ok (.iconst 1, 1) := by decide +kernel
theorem dX12_layOrder_104 : decode cX12_layOrder 104 = .ok (.istore 4, 2) := by decide +kernel
theorem dX12_layOrder_106 : decode cX12_layOrder 106 = .ok (.iload 4, 2) := by decide +kernel
theorem dX12_layOrder_108 : decode cX12_layOrder 108 = .ok (.aload_n 0, 1) := by decide +kernel
theorem dX12_layOrder_109 : decode cX12_layOrder 109 = .ok (.getfield 27, 3) := by decide +kernel
theorem dX12_layOrder_112 : decode cX12_layOrder 112 = .ok (.aload_n 0, 1) := by decide +kernel
theorem dX12_layOrder_113 : decode cX12_layOrder 113 = .ok (.getfield 274, 3) := by decide +kernel
theorem dX12_layOrder_116 : decode cX12_layOrder 116 = .ok (.iaload, 1) := by decide +kernel
theorem dX12_layOrder_117 : decode cX12_layOrder 117 = .ok (.if_icmp .ge 34, 3) := by decide +kernel
theorem dX12_layOrder_151 : decode cX12_layOrder 151 = .ok (.iconst 1, 1) := by decide +kernel
theorem dX12_layOrder_152 : decode cX12_layOrder 152 = .ok (.ireturn, 1) := by decide +kernel
theorem dX12_doesFit_0 : decode cX12_doesFit 0 = .ok (.iconst 0, 1) := by decide +kernel
theorem dX12_doesFit_1 : decode cX12_doesFit 1 = .ok (.istore_n 2, 1) := by decide +kernel
theorem dX12_doesFit_2 : decode cX12_doesFit 2 = .ok (.iload_n 2, 1) := by decide +kernel
theorem dX12_doesFit_3 : decode cX12_doesFit 3 = .ok (.aload_n 0, 1) := by decide +kernel
theorem dX12_doesFit_4 : decode cX12_doesFit 4 = .ok (.getfield 372, 3) := by decide +kernel
theorem dX12_doesFit_7 : decode cX12_doesFit 7 = .ok (.if_icmp .ge 84, 3) := by decide +kernel
theorem dX12_doesFit_91 : decode cX12_doesFit 91 = .ok (.iconst 1, 1) := by decide +kernel
theorem dX12_doesFit_92 : decode cX12_doesFit 92 = .ok (.ireturn, 1) := by decide +kernel
theorem dX12_rowsOfSlips_0 : decode cX12_rowsOfSlips 0 = .ok (.iconst 1, 1) := by decide +kernel
theorem dX12_rowsOfSlips_1 : decode cX12_rowsOfSlips 1 = .ok (.istore_n 1, 1) := by decide +kernel
theorem dX12_rowsOfSlips_2 : decode cX12_rowsOfSlips 2 = .ok (.iconst 0, 1) := by decide +kernel
theorem dX12_rowsOfSlips_3 : decode cX12_rowsOfSlips 3 = .ok (.istore_n 2, 1) := by decide +kernel
theorem dX12_rowsOfSlips_4 : decode cX12_rowsOfSlips 4 = .ok (.iload_n 2, 1) := by decide +kernel
theorem dX12_rowsOfSlips_5 : decode cX12_rowsOfSlips 5 = .ok (.aload_n 0, 1) := by decide +kernel
theorem dX12_rowsOfSlips_6 : decode cX12_rowsOfSlips 6 = .ok (.getfield 27, 3) := by decide +kernel
theorem dX12_rowsOfSlips_9 : decode cX12_rowsOfSlips 9 = .ok (.aload_n 0, 1) := by decide +kernel
theorem dX12_rowsOfSlips_10 : decode cX12_rowsOfSlips 10 = .ok (.getfield 274, 3) := by decide +kernel
theorem dX12_rowsOfSlips_13 : decode cX12_rowsOfSlips 13 = .ok (.iaload, 1) := by decide +kernel
theorem dX12_rowsOfSlips_14 : decode cX12_rowsOfSlips 14 = .ok (.if_icmp .ge 21, 3) := by decide +kernel
theorem dX12_rowsOfSlips_35 : decode cX12_rowsOfSlips 35 = .ok (.iload_n 1, 1) := by decide +kernel
theorem dX12_rowsOfSlips_36 : decode cX12_rowsOfSlips 36 = .ok (.ireturn, 1) := by decide +kernel
theorem dX12_sittings_0 : decode cX12_sittings 0 = .ok (.aload_n 0, 1) := by decide +kernel
theorem dX12_sittings_1 : decode cX12_sittings 1 = .ok (.iconst 0, 1) := by decide +kernel
theorem dX12_sittings_2 : decode cX12_sittings 2 = .ok (.putfield 375, 3) := by decide +kernel
theorem dX12_sittings_5 : decode cX12_sittings 5 = .ok (.iconst 0, 1) := by decide +kernel
theorem dX12_sittings_6 : decode cX12_sittings 6 = .ok (.istore_n 1, 1) := by decide +kernel
theorem dX12_sittings_7 : decode cX12_sittings 7 = .ok (.iconst 0, 1) := by decide +kernel
theorem dX12_sittings_8 : decode cX12_sittings 8 = .ok (.istore_n 2, 1) := by decide +kernel
theorem dX12_sittings_9 : decode cX12_sittings 9 = .ok (.iload_n 2, 1) := by decide +kernel
theorem dX12_sittings_10 : decode cX12_sittings 10 = .ok (.aload_n 0, 1) := by decide +kernel
theorem dX12_sittings_11 : decode cX12_sittings 11 = .ok (.invokevirtual 520, 3) := by decide +kernel
theorem dX12_sittings_14 : decode cX12_sittings 14 = .ok (.if_icmp .ge 73, 3) := by decide +kernel
theorem dX12_sittings_17 : decode cX12_sittings 17 = .ok (.aload_n 0, 1) := by decide +kernel
theorem dX12_sittings_18 : decode cX12_sittings 18 = .ok (.iload_n 2, 1) := by decide +kernel
theorem dX12_sittings_19 : decode cX12_sittings 19 = .ok (.invokevirtual 523, 3) := by decide +kernel
theorem dX12_sittings_22 : decode cX12_sittings 22 = .ok (.ifCond .ne 6, 3) := by decide +kernel
theorem dX12_sittings_28 : decode cX12_sittings 28 = .ok (.iconst 0, 1) := by decide +kernel
theorem dX12_sittings_29 : decode cX12_sittings 29 = .ok (.istore_n 3, 1) := by decide +kernel
theorem dX12_sittings_30 : decode cX12_sittings 30 = .ok (.iload_n 3, 1) := by decide +kernel
theorem dX12_sittings_31 : decode cX12_sittings 31 = .ok (.aload_n 0, 1) := by decide +kernel
theorem dX12_sittings_32 : decode cX12_sittings 32 = .ok (.getfield 27, 3) := by decide +kernel
theorem dX12_sittings_35 : decode cX12_sittings 35 = .ok (.aload_n 0, 1) := by decide +kernel
theorem dX12_sittings_36 : decode cX12_sittings 36 = .ok (.getfield 274, 3) := by decide +kernel
theorem dX12_sittings_39 : decode cX12_sittings 39 = .ok (.iaload, 1) := by decide +kernel
theorem dX12_sittings_40 : decode cX12_sittings 40 = .ok (.if_icmp .ge 25, 3) := by decide +kernel
theorem dX12_sittings_65 : decode cX12_sittings 65 = .ok (.aload_n 0, 1) := by decide +kernel
theorem dX12_sittings_66 : decode cX12_sittings 66 = .ok (.aload_n 0, 1) := by decide +kernel
theorem dX12_sittings_67 : decode cX12_sittings 67 = .ok (.getfield 27, 3) := by decide +kernel
theorem dX12_sittings_70 : decode cX12_sittings 70 = .ok (.aload_n 0, 1) := by decide +kernel
theorem dX12_sittings_71 : decode cX12_sittings 71 = .ok (.getfield 274, 3) := by decide +kernel
theorem dX12_sittings_74 : decode cX12_sittings 74 = .ok (.iaload, 1) := by decide +kernel
theorem dX12_sittings_75 : decode cX12_sittings 75 = .ok (.putfield 375, 3) := by decide +kernel
theorem dX12_sittings_78 : decode cX12_sittings 78 = .ok (.iinc 1 1, 3) := by decide +kernel
theorem dX12_sittings_81 : decode cX12_sittings 81 = .ok (.iinc 2 1, 3) := by decide +kernel
theorem dX12_sittings_84 : decode cX12_sittings 84 = .ok (.goto (-75), 3) := by decide +kernel
theorem dX12_sittings_87 : decode cX12_sittings 87 = .ok (.iload_n 1, 1) := by decide +kernel
theorem dX12_sittings_88 : decode cX12_sittings 88 = .ok (.ireturn, 1) := by decide +kernel
theorem dX12_hint_0 : decode cX12_hint 0 = .ok (.aload_n 0, 1) := by decide +kernel
theorem dX12_hint_1 : decode cX12_hint 1 = .ok (.iload_n 1, 1) := by decide +kernel
theorem dX12_hint_2 : decode cX12_hint 2 = .ok (.invokevirtual 363, 3) := by decide +kernel
theorem dX12_hint_5 : decode cX12_hint 5 = .ok (.ifCond .eq 25, 3) := by decide +kernel
theorem dX12_hint_30 : decode cX12_hint 30 = .ok (.iconst (-1), 1) := by decide +kernel
theorem dX12_hint_31 : decode cX12_hint 31 = .ok (.ireturn, 1) := by decide +kernel
theorem dX12_untell_0 : decode cX12_untell 0 = .ok (.iload_n 1, 1) := by decide +kernel
theorem dX12_untell_1 : decode cX12_untell 1 = .ok (.iconst 0, 1) := by decide +kernel
theorem dX12_untell_2 : decode cX12_untell 2 = .ok (.aload_n 0, 1) := by decide +kernel
theorem dX12_untell_3 : decode cX12_untell 3 = .ok (.getfield 372, 3) := by decide +kernel
theorem dX12_untell_6 : decode cX12_untell 6 = .ok (.iconst 1, 1) := by decide +kernel
theorem dX12_untell_7 : decode cX12_untell 7 = .ok (.isub, 1) := by decide +kernel
theorem dX12_untell_8 : decode cX12_untell 8 = .ok (.invokestatic 359, 3) := by decide +kernel
theorem dX12_untell_11 : decode cX12_untell 11 = .ok (.ifCond .eq 12, 3) := by decide +kernel
theorem dX12_untell_23 : decode cX12_untell 23 = .ok (.iconst 0, 1) := by decide +kernel
theorem dX12_untell_24 : decode cX12_untell 24 = .ok (.ireturn, 1) := by decide +kernel
theorem dX12_later_0 : decode cX12_later 0 = .ok (.iload_n 1, 1) := by decide +kernel
theorem dX12_later_1 : decode cX12_later 1 = .ok (.iconst 0, 1) := by decide +kernel
theorem dX12_later_2 : decode cX12_later 2 = .ok (.sipush 1000, 3) := by decide +kernel
theorem dX12_later_5 : decode cX12_later 5 = .ok (.invokestatic 359, 3) := by decide +kernel
theorem dX12_later_8 : decode cX12_later 8 = .ok (.ifCond .eq 15, 3) := by decide +kernel
theorem dX12_later_11 : decode cX12_later 11 = .ok (.aload_n 0, 1) := by decide +kernel
theorem dX12_later_12 : decode cX12_later 12 = .ok (.getfield 526, 3) := by decide +kernel
theorem dX12_later_15 : decode cX12_later 15 = .ok (.iload_n 1, 1) := by decide +kernel
theorem dX12_later_16 : decode cX12_later 16 = .ok (.iadd, 1) := by decide +kernel
theorem dX12_later_17 : decode cX12_later 17 = .ok (.ldc_w 529, 3) := by decide +kernel
theorem dX12_later_20 : decode cX12_later 20 = .ok (.if_icmp .le 5, 3) := by decide +kernel
theorem dX12_later_23 : decode cX12_later 23 = .ok (.iconst (-1), 1) := by decide +kernel
theorem dX12_later_24 : decode cX12_later 24 = .ok (.ireturn, 1) := by decide +kernel
theorem dX12_later_25 : decode cX12_later 25 = .ok (.aload_n 0, 1) := by decide +kernel
theorem dX12_later_26 : decode cX12_later 26 = .ok (.dup, 1) := by decide +kernel
theorem dX12_later_27 : decode cX12_later 27 = .ok (.getfield 526, 3) := by decide +kernel
theorem dX12_later_30 : decode cX12_later 30 = .ok (.iload_n 1, 1) := by decide +kernel
theorem dX12_later_31 : decode cX12_later 31 = .ok (.iadd, 1) := by decide +kernel
theorem dX12_later_32 : decode cX12_later 32 = .ok (.putfield 526, 3) := by decide +kernel
theorem dX12_later_35 : decode cX12_later 35 = .ok (.aload_n 0, 1) := by decide +kernel
theorem dX12_later_36 : decode cX12_later 36 = .ok (.getfield 526, 3) := by decide +kernel
theorem dX12_later_39 : decode cX12_later 39 = .ok (.ireturn, 1) := by decide +kernel
theorem dX12_laySeats_0 : decode cX12_laySeats 0 = .ok (.aload_n 0, 1) := by decide +kernel
theorem dX12_laySeats_1 : decode cX12_laySeats 1 = .ok (.iconst 0, 1) := by decide +kernel
theorem dX12_laySeats_2 : decode cX12_laySeats 2 = .ok (.putfield 530, 3) := by decide +kernel
theorem dX12_laySeats_5 : decode cX12_laySeats 5 = .ok (.iconst 0, 1) := by decide +kernel
theorem dX12_laySeats_6 : decode cX12_laySeats 6 = .ok (.istore_n 2, 1) := by decide +kernel
theorem dX12_laySeats_7 : decode cX12_laySeats 7 = .ok (.iload_n 2, 1) := by decide +kernel
theorem dX12_laySeats_8 : decode cX12_laySeats 8 = .ok (.bipush 25, 2) := by decide +kernel
theorem dX12_laySeats_10 : decode cX12_laySeats 10 = .ok (.if_icmp .ge 16, 3) := by decide +kernel
theorem dX12_laySeats_13 : decode cX12_laySeats 13 = .ok (.aload_n 0, 1) := by decide +kernel
theorem dX12_laySeats_14 : decode cX12_laySeats 14 = .ok (.getfield 152, 3) := by decide +kernel
theorem dX12_laySeats_17 : decode cX12_laySeats 17 = .ok (.iload_n 2, 1) := by decide +kernel
theorem dX12_laySeats_18 : decode cX12_laySeats 18 = .ok (.iconst 0, 1) := by decide +kernel
theorem dX12_laySeats_19 : decode cX12_laySeats 19 = .ok (.iastore, 1) := by decide +kernel
theorem dX12_laySeats_20 : decode cX12_laySeats 20 = .ok (.iinc 2 1, 3) := by decide +kernel
theorem dX12_laySeats_23 : decode cX12_laySeats 23 = .ok (.goto (-16), 3) := by decide +kernel
theorem dX12_laySeats_26 : decode cX12_laySeats 26 = .ok (.iconst 0, 1) := by decide +kernel
theorem dX12_laySeats_27 : decode cX12_laySeats 27 = .ok (.istore_n 2, 1) := by decide +kernel
theorem dX12_laySeats_28 : decode cX12_laySeats 28 = .ok (.iload_n 2, 1) := by decide +kernel
theorem dX12_laySeats_29 : decode cX12_laySeats 29 = .ok (.aload_n 0, 1) := by decide +kernel
theorem dX12_laySeats_30 : decode cX12_laySeats 30 = .ok (.invokevirtual 520, 3) := by decide +kernel
theorem dX12_laySeats_33 : decode cX12_laySeats 33 = .ok (.if_icmp .ge 78, 3) := by decide +kernel
theorem dX12_laySeats_36 : decode cX12_laySeats 36 = .ok (.aload_n 0, 1) := by decide +kernel
theorem dX12_laySeats_37 : decode cX12_laySeats 37 = .ok (.iload_n 2, 1) := by decide +kernel
theorem dX12_laySeats_38 : decode cX12_laySeats 38 = .ok (.invokevirtual 523, 3) := by decide +kernel
theorem dX12_laySeats_41 : decode cX12_laySeats 41 = .ok (.ifCond .eq 64, 3) := by decide +kernel
theorem dX12_laySeats_44 : decode cX12_laySeats 44 = .ok (.aload_n 0, 1) := by decide +kernel
theorem dX12_laySeats_45 : decode cX12_laySeats 45 = .ok (.iload_n 1, 1) := by decide +kernel
theorem dX12_laySeats_46 : decode cX12_laySeats 46 = .ok (.invokevirtual 533, 3) := by decide +kernel
theorem dX12_laySeats_49 : decode cX12_laySeats 49 = .ok (.ifCond .ne 6, 3) := by decide +kernel
theorem dX12_laySeats_55 : decode cX12_laySeats 55 = .ok (.aload_n 0, 1) := by decide +kernel
theorem dX12_laySeats_56 : decode cX12_laySeats 56 = .ok (.dup, 1) := by decide +kernel
theorem dX12_laySeats_57 : decode cX12_laySeats 57 = .ok (.getfield 530, 3) := by decide +kernel
theorem dX12_laySeats_60 : decode cX12_laySeats 60 = .ok (.iconst 1, 1) := by decide +kernel
theorem dX12_laySeats_61 : decode cX12_laySeats 61 = .ok (.iadd, 1) := by decide +kernel
theorem dX12_laySeats_62 : decode cX12_laySeats 62 = .ok (.putfield 530, 3) := by decide +kernel
theorem dX12_laySeats_65 : decode cX12_laySeats 65 = .ok (.iconst 0, 1) := by decide +kernel
theorem dX12_laySeats_66 : decode cX12_laySeats 66 = .ok (.istore_n 3, 1) := by decide +kernel
theorem dX12_laySeats_67 : decode cX12_laySeats 67 = .ok (.iload_n 3, 1) := by decide +kernel
theorem dX12_laySeats_68 : decode cX12_laySeats 68 = .ok (.aload_n 0, 1) := by decide +kernel
theorem dX12_laySeats_69 : decode cX12_laySeats 69 = .ok (.getfield 27, 3) := by decide +kernel
theorem dX12_laySeats_72 : decode cX12_laySeats 72 = .ok (.aload_n 0, 1) := by decide +kernel
theorem dX12_laySeats_73 : decode cX12_laySeats 73 = .ok (.getfield 274, 3) := by decide +kernel
theorem dX12_laySeats_76 : decode cX12_laySeats 76 = .ok (.iaload, 1) := by decide +kernel
theorem dX12_laySeats_77 : decode cX12_laySeats 77 = .ok (.if_icmp .ge 28, 3) := by decide +kernel
theorem dX12_laySeats_105 : decode cX12_laySeats 105 = .ok (.iinc 2 1, 3) := by decide +kernel
theorem dX12_laySeats_108 : decode cX12_laySeats 108 = .ok (.goto (-80), 3) := by decide +kernel
theorem dX12_laySeats_111 : decode cX12_laySeats 111 = .ok (.return_, 1) := by decide +kernel
theorem dX12_seats_0 : decode cX12_seats 0 = .ok (.aload_n 0, 1) := by decide +kernel
theorem dX12_seats_1 : decode cX12_seats 1 = .ok (.iload_n 1, 1) := by decide +kernel
