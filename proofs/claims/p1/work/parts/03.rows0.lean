theorem nw_0 : Cond.fieldLinkNest RX11 83 "LostWords$Tape" "length" "I" "LostWords" ∈ nestW := List.mem_of_getElem? (i := 0) rfl
theorem nw_1 : Cond.fieldLinkNest RX6 38 "LostWords$Tape" "kind" "I" "LostWords" ∈ nestW := List.mem_of_getElem? (i := 1) rfl
theorem nw_5 : Cond.fieldLinkNest RX4 39 "LostWords$Line" "count" "I" "LostWords" ∈ nestW := List.mem_of_getElem? (i := 5) rfl
theorem nw_6 : Cond.fieldLinkNest RX8 31 "LostWords$Line" "count" "I" "LostWords" ∈ nestW := List.mem_of_getElem? (i := 6) rfl
theorem nw_7 : Cond.fieldLinkNest RX5 58 "LostWords$Line" "count" "I" "LostWords" ∈ nestW := List.mem_of_getElem? (i := 7) rfl
theorem nw_8 : Cond.fieldLinkNest RX3 40 "LostWords$Line" "count" "I" "LostWords" ∈ nestW := List.mem_of_getElem? (i := 8) rfl
theorem nw_10 : Cond.fieldLinkNest RX10 77 "LostWords$Line" "count" "I" "LostWords" ∈ nestW := List.mem_of_getElem? (i := 10) rfl
theorem nw_11 : Cond.fieldLinkNest RX11 134 "LostWords$Line" "count" "I" "LostWords" ∈ nestW := List.mem_of_getElem? (i := 11) rfl
theorem nw_13 : Cond.fieldLinkNest RX11 328 "LostWords$Formula" "units" "I" "LostWords" ∈ nestW := List.mem_of_getElem? (i := 13) rfl
theorem nw_16 : Cond.fieldLinkNest RX5 36 "LostWords$Told" "row" "LLostWords$Line;" "LostWords" ∈ nestW := List.mem_of_getElem? (i := 16) rfl
theorem nw_18 : Cond.fieldLinkNest RX11 324 "LostWords$Told" "formula" "LLostWords$Formula;" "LostWords" ∈ nestW := List.mem_of_getElem? (i := 18) rfl
theorem nw_21 : Cond.fieldLinkNest RX11 300 "LostWords$Told" "wordCount" "I" "LostWords" ∈ nestW := List.mem_of_getElem? (i := 21) rfl
theorem nw_23 : Cond.fieldLinkNest RX11 309 "LostWords$Told" "pairCount" "I" "LostWords" ∈ nestW := List.mem_of_getElem? (i := 23) rfl
theorem nw_24 : Cond.fieldLinkNest RX7 45 "LostWords$Told" "slipCount" "I" "LostWords" ∈ nestW := List.mem_of_getElem? (i := 24) rfl
theorem nw_25 : Cond.fieldLinkNest RX11 105 "LostWords$Told" "slipCount" "I" "LostWords" ∈ nestW := List.mem_of_getElem? (i := 25) rfl
theorem nw_26 : Cond.fieldLinkNest RX5 49 "LostWords$Told" "draw" "I" "LostWords" ∈ nestW := List.mem_of_getElem? (i := 26) rfl
theorem nw_29 : Cond.fieldLinkNest RX11 70 "LostWords$Reader" "tape" "LLostWords$Tape;" "LostWords" ∈ nestW := List.mem_of_getElem? (i := 29) rfl
theorem nw_30 : Cond.fieldLinkNest RX11 108 "LostWords$Reader" "fault" "I" "LostWords" ∈ nestW := List.mem_of_getElem? (i := 30) rfl
theorem nw_31 : Cond.fieldLinkNest RX11 111 "LostWords$Reader" "place" "I" "LostWords" ∈ nestW := List.mem_of_getElem? (i := 31) rfl
theorem nw_32 : Cond.fieldLinkNest RX5 32 "LostWords$State" "row" "LLostWords$Line;" "LostWords" ∈ nestW := List.mem_of_getElem? (i := 32) rfl
theorem nw_33 : Cond.fieldLinkNest RX11 118 "LostWords$State" "row" "LLostWords$Line;" "LostWords" ∈ nestW := List.mem_of_getElem? (i := 33) rfl
theorem nw_34 : Cond.fieldLinkNest RX5 45 "LostWords$State" "round" "I" "LostWords" ∈ nestW := List.mem_of_getElem? (i := 34) rfl
theorem nw_35 : Cond.fieldLinkNest RX11 303 "LostWords$State" "round" "I" "LostWords" ∈ nestW := List.mem_of_getElem? (i := 35) rfl
theorem nw_36 : Cond.fieldLinkNest RX5 52 "LostWords$State" "seed" "I" "LostWords" ∈ nestW := List.mem_of_getElem? (i := 36) rfl
theorem nw_37 : Cond.fieldLinkNest RX11 306 "LostWords$State" "seed" "I" "LostWords" ∈ nestW := List.mem_of_getElem? (i := 37) rfl
theorem nw_38 : Cond.fieldLinkNest RX11 114 "LostWords$Play" "now" "LLostWords$State;" "LostWords" ∈ nestW := List.mem_of_getElem? (i := 38) rfl
theorem nw_39 : Cond.fieldLinkNest RX11 263 "LostWords$Seating" "firstOrder" "LLostWords$Line;" "LostWords" ∈ nestW := List.mem_of_getElem? (i := 39) rfl
theorem nw_40 : Cond.fieldLinkNest RX11 318 "LostWords$Seating" "hintCount" "I" "LostWords" ∈ nestW := List.mem_of_getElem? (i := 40) rfl
theorem nw_41 : Cond.fieldLinkNest RX11 321 "LostWords$Seating" "time" "I" "LostWords" ∈ nestW := List.mem_of_getElem? (i := 41) rfl
theorem dX0_init_0 : decode cX0_init 0 = .ok (.aload_n 0, 1) := by decide +kernel
theorem dX0_init_1 : decode cX0_init 1 = .ok (.invokespecial 1, 3) := by decide +kernel
theorem dX0_init_4 : decode cX0_init 4 = .ok (.aload_n 0, 1) := by decide +kernel
theorem dX0_init_5 : decode cX0_init 5 = .ok (.sipush 512, 3) := by decide +kernel
theorem dX0_init_8 : decode cX0_init 8 = .ok (.newarray .int, 2) := by decide +kernel
theorem dX0_init_10 : decode cX0_init 10 = .ok (.putfield 9, 3) := by decide +kernel
theorem dX0_init_13 : decode cX0_init 13 = .ok (.aload_n 0, 1) := by decide +kernel
theorem dX0_init_14 : decode cX0_init 14 = .ok (.sipush 512, 3) := by decide +kernel
theorem dX0_init_17 : decode cX0_init 17 = .ok (.newarray .int, 2) := by decide +kernel
theorem dX0_init_19 : decode cX0_init 19 = .ok (.putfield 13, 3) := by decide +kernel
theorem dX0_init_22 : decode cX0_init 22 = .ok (.aload_n 0, 1) := by decide +kernel
theorem dX0_init_23 : decode cX0_init 23 = .ok (.bipush 64, 2) := by decide +kernel
theorem dX0_init_25 : decode cX0_init 25 = .ok (.newarray .int, 2) := by decide +kernel
theorem dX0_init_27 : decode cX0_init 27 = .ok (.putfield 16, 3) := by decide +kernel
theorem dX0_init_30 : decode cX0_init 30 = .ok (.aload_n 0, 1) := by decide +kernel
theorem dX0_init_31 : decode cX0_init 31 = .ok (.bipush 6, 2) := by decide +kernel
theorem dX0_init_33 : decode cX0_init 33 = .ok (.newarray .int, 2) := by decide +kernel
theorem dX0_init_35 : decode cX0_init 35 = .ok (.putfield 21, 3) := by decide +kernel
theorem dX0_init_38 : decode cX0_init 38 = .ok (.return_, 1) := by decide +kernel
theorem dX0_clear_0 : decode cX0_clear 0 = .ok (.aload_n 0, 1) := by decide +kernel
theorem dX0_clear_1 : decode cX0_clear 1 = .ok (.iconst 0, 1) := by decide +kernel
theorem dX0_clear_2 : decode cX0_clear 2 = .ok (.putfield 24, 3) := by decide +kernel
theorem dX0_clear_5 : decode cX0_clear 5 = .ok (.aload_n 0, 1) := by decide +kernel
theorem dX0_clear_6 : decode cX0_clear 6 = .ok (.iconst 0, 1) := by decide +kernel
theorem dX0_clear_7 : decode cX0_clear 7 = .ok (.putfield 28, 3) := by decide +kernel
theorem dX0_clear_10 : decode cX0_clear 10 = .ok (.aload_n 0, 1) := by decide +kernel
theorem dX0_clear_11 : decode cX0_clear 11 = .ok (.iconst 0, 1) := by decide +kernel
theorem dX0_clear_12 : decode cX0_clear 12 = .ok (.putfield 31, 3) := by decide +kernel
theorem dX0_clear_15 : decode cX0_clear 15 = .ok (.return_, 1) := by decide +kernel
theorem dX1_init_0 : decode cX1_init 0 = .ok (.aload_n 0, 1) := by decide +kernel
theorem dX1_init_1 : decode cX1_init 1 = .ok (.invokespecial 3, 3) := by decide +kernel
theorem dX1_init_4 : decode cX1_init 4 = .ok (.aload_n 0, 1) := by decide +kernel
theorem dX1_init_5 : decode cX1_init 5 = .ok (.iload_n 1, 1) := by decide +kernel
theorem dX1_init_6 : decode cX1_init 6 = .ok (.iconst 0, 1) := by decide +kernel
theorem dX1_init_7 : decode cX1_init 7 = .ok (.invokestatic 9, 3) := by decide +kernel
theorem dX1_init_10 : decode cX1_init 10 = .ok (.newarray .int, 2) := by decide +kernel
theorem dX1_init_12 : decode cX1_init 12 = .ok (.putfield 15, 3) := by decide +kernel
theorem dX1_init_15 : decode cX1_init 15 = .ok (.aload_n 0, 1) := by decide +kernel
theorem dX1_init_16 : decode cX1_init 16 = .ok (.iconst 0, 1) := by decide +kernel
theorem dX1_init_17 : decode cX1_init 17 = .ok (.putfield 21, 3) := by decide +kernel
theorem dX1_init_20 : decode cX1_init 20 = .ok (.return_, 1) := by decide +kernel
theorem dX1_has_0 : decode cX1_has 0 = .ok (.iload_n 1, 1) := by decide +kernel
theorem dX1_has_1 : decode cX1_has 1 = .ok (.ifCond .lt 24, 3) := by decide +kernel
theorem dX1_has_4 : decode cX1_has 4 = .ok (.iload_n 1, 1) := by decide +kernel
theorem dX1_has_5 : decode cX1_has 5 = .ok (.aload_n 0, 1) := by decide +kernel
theorem dX1_has_6 : decode cX1_has 6 = .ok (.getfield 21, 3) := by decide +kernel
theorem dX1_has_9 : decode cX1_has 9 = .ok (.if_icmp .ge 16, 3) := by decide +kernel
theorem dX1_has_25 : decode cX1_has 25 = .ok (.iconst 0, 1) := by decide +kernel
theorem dX1_has_26 : decode cX1_has 26 = .ok (.ireturn, 1) := by decide +kernel
theorem dX1_at_0 : decode cX1_at 0 = .ok (.iload_n 1, 1) := by decide +kernel
theorem dX1_at_1 : decode cX1_at 1 = .ok (.ifCond .lt 29, 3) := by decide +kernel
theorem dX1_at_4 : decode cX1_at 4 = .ok (.iload_n 1, 1) := by decide +kernel
theorem dX1_at_5 : decode cX1_at 5 = .ok (.aload_n 0, 1) := by decide +kernel
theorem dX1_at_6 : decode cX1_at 6 = .ok (.getfield 21, 3) := by decide +kernel
theorem dX1_at_9 : decode cX1_at 9 = .ok (.if_icmp .ge 21, 3) := by decide +kernel
theorem dX1_at_30 : decode cX1_at 30 = .ok (.iconst (-1), 1) := by decide +kernel
theorem dX1_at_31 : decode cX1_at 31 = .ok (.ireturn, 1) := by decide +kernel
theorem dX1_clear_0 : decode cX1_clear 0 = .ok (.aload_n 0, 1) := by decide +kernel
theorem dX1_clear_1 : decode cX1_clear 1 = .ok (.iconst 0, 1) := by decide +kernel
theorem dX1_clear_2 : decode cX1_clear 2 = .ok (.putfield 21, 3) := by decide +kernel
theorem dX1_clear_5 : decode cX1_clear 5 = .ok (.return_, 1) := by decide +kernel
theorem dX1_copy_0 : decode cX1_copy 0 = .ok (.aload_n 0, 1) := by decide +kernel
theorem dX1_copy_1 : decode cX1_copy 1 = .ok (.invokevirtual 33, 3) := by decide +kernel
theorem dX1_copy_4 : decode cX1_copy 4 = .ok (.iconst 0, 1) := by decide +kernel
theorem dX1_copy_5 : decode cX1_copy 5 = .ok (.istore_n 2, 1) := by decide +kernel
theorem dX1_copy_6 : decode cX1_copy 6 = .ok (.iload_n 2, 1) := by decide +kernel
theorem dX1_copy_7 : decode cX1_copy 7 = .ok (.aload_n 1, 1) := by decide +kernel
theorem dX1_copy_8 : decode cX1_copy 8 = .ok (.getfield 21, 3) := by decide +kernel
theorem dX1_copy_11 : decode cX1_copy 11 = .ok (.if_icmp .ge 18, 3) := by decide +kernel
theorem dX1_copy_29 : decode cX1_copy 29 = .ok (.return_, 1) := by decide +kernel
theorem dX2_init_0 : decode cX2_init 0 = .ok (.aload_n 0, 1) := by decide +kernel
theorem dX2_init_1 : decode cX2_init 1 = .ok (.invokespecial 3, 3) := by decide +kernel
theorem dX2_init_4 : decode cX2_init 4 = .ok (.aload_n 0, 1) := by decide +kernel
theorem dX2_init_5 : decode cX2_init 5 = .ok (.sipush 4096, 3) := by decide +kernel
theorem dX2_init_8 : decode cX2_init 8 = .ok (.newarray .int, 2) := by decide +kernel
theorem dX2_init_10 : decode cX2_init 10 = .ok (.putfield 11, 3) := by decide +kernel
theorem dX2_init_13 : decode cX2_init 13 = .ok (.return_, 1) := by decide +kernel
theorem dX3_init_0 : decode cX3_init 0 = .ok (.aload_n 0, 1) := by decide +kernel
theorem dX3_init_1 : decode cX3_init 1 = .ok (.invokespecial 3, 3) := by decide +kernel
theorem dX3_init_4 : decode cX3_init 4 = .ok (.aload_n 0, 1) := by decide +kernel
theorem dX3_init_5 : decode cX3_init 5 = .ok (.new 9, 3) := by decide +kernel
theorem dX3_init_8 : decode cX3_init 8 = .ok (.dup, 1) := by decide +kernel
theorem dX3_init_9 : decode cX3_init 9 = .ok (.bipush 12, 2) := by decide +kernel
theorem dX3_init_11 : decode cX3_init 11 = .ok (.invokespecial 11, 3) := by decide +kernel
theorem dX3_init_14 : decode cX3_init 14 = .ok (.putfield 14, 3) := by decide +kernel
theorem dX3_init_17 : decode cX3_init 17 = .ok (.aload_n 0, 1) := by decide +kernel
theorem dX3_init_18 : decode cX3_init 18 = .ok (.new 9, 3) := by decide +kernel
theorem dX3_init_21 : decode cX3_init 21 = .ok (.dup, 1) := by decide +kernel
theorem dX3_init_22 : decode cX3_init 22 = .ok (.bipush 12, 2) := by decide +kernel
theorem dX3_init_24 : decode cX3_init 24 = .ok (.invokespecial 11, 3) := by decide +kernel
theorem dX3_init_27 : decode cX3_init 27 = .ok (.putfield 20, 3) := by decide +kernel
theorem dX3_init_30 : decode cX3_init 30 = .ok (.aload_n 0, 1) := by decide +kernel
theorem dX3_init_31 : decode cX3_init 31 = .ok (.new 9, 3) := by decide +kernel
theorem dX3_init_34 : decode cX3_init 34 = .ok (.dup, 1) := by decide +kernel
theorem dX3_init_35 : decode cX3_init 35 = .ok (.bipush 12, 2) := by decide +kernel
theorem dX3_init_37 : decode cX3_init 37 = .ok (.invokespecial 11, 3) := by decide +kernel
theorem dX3_init_40 : decode cX3_init 40 = .ok (.putfield 23, 3) := by decide +kernel
theorem dX3_init_43 : decode cX3_init 43 = .ok (.return_, 1) := by decide +kernel
theorem dX3_safePlaces_0 : decode cX3_safePlaces 0 = .ok (.aload_n 1, 1) := by decide +kernel
theorem dX3_safePlaces_1 : decode cX3_safePlaces 1 = .ok (.aload_n 2, 1) := by decide +kernel
theorem dX3_safePlaces_2 : decode cX3_safePlaces 2 = .ok (.invokevirtual 34, 3) := by decide +kernel
theorem dX3_safePlaces_5 : decode cX3_safePlaces 5 = .ok (.istore_n 3, 1) := by decide +kernel
theorem dX3_safePlaces_6 : decode cX3_safePlaces 6 = .ok (.iconst 0, 1) := by decide +kernel
theorem dX3_safePlaces_7 : decode cX3_safePlaces 7 = .ok (.istore 4, 2) := by decide +kernel
theorem dX3_safePlaces_9 : decode cX3_safePlaces 9 = .ok (.iconst 0, 1) := by decide +kernel
theorem dX3_safePlaces_10 : decode cX3_safePlaces 10 = .ok (.istore 5, 2) := by decide +kernel
theorem dX3_safePlaces_12 : decode cX3_safePlaces 12 = .ok (.iload 5, 2) := by decide +kernel
theorem dX3_safePlaces_14 : decode cX3_safePlaces 14 = .ok (.aload_n 2, 1) := by decide +kernel
theorem dX3_safePlaces_15 : decode cX3_safePlaces 15 = .ok (.getfield 40, 3) := by decide +kernel
theorem dX3_safePlaces_18 : decode cX3_safePlaces 18 = .ok (.if_icmp .ge 50, 3) := by decide +kernel
theorem dX3_safePlaces_68 : decode cX3_safePlaces 68 = .ok (.iload 4, 2) := by decide +kernel
theorem dX3_safePlaces_70 : decode cX3_safePlaces 70 = .ok (.ireturn, 1) := by decide +kernel
theorem dX4_init_0 : decode cX4_init 0 = .ok (.aload_n 0, 1) := by decide +kernel
theorem dX4_init_1 : decode cX4_init 1 = .ok (.invokespecial 3, 3) := by decide +kernel
theorem dX4_init_4 : decode cX4_init 4 = .ok (.aload_n 0, 1) := by decide +kernel
theorem dX4_init_5 : decode cX4_init 5 = .ok (.sipush 169, 3) := by decide +kernel
theorem dX4_init_8 : decode cX4_init 8 = .ok (.newarray .int, 2) := by decide +kernel
theorem dX4_init_10 : decode cX4_init 10 = .ok (.putfield 11, 3) := by decide +kernel
theorem dX4_init_13 : decode cX4_init 13 = .ok (.aload_n 0, 1) := by decide +kernel
theorem dX4_init_14 : decode cX4_init 14 = .ok (.sipush 729, 3) := by decide +kernel
theorem dX4_init_17 : decode cX4_init 17 = .ok (.newarray .int, 2) := by decide +kernel
theorem dX4_init_19 : decode cX4_init 19 = .ok (.putfield 15, 3) := by decide +kernel
theorem dX4_init_22 : decode cX4_init 22 = .ok (.aload_n 0, 1) := by decide +kernel
theorem dX4_init_23 : decode cX4_init 23 = .ok (.sipush 729, 3) := by decide +kernel
theorem dX4_init_26 : decode cX4_init 26 = .ok (.newarray .int, 2) := by decide +kernel
theorem dX4_init_28 : decode cX4_init 28 = .ok (.putfield 18, 3) := by decide +kernel
theorem dX4_init_31 : decode cX4_init 31 = .ok (.aload_n 0, 1) := by decide +kernel
theorem dX4_init_32 : decode cX4_init 32 = .ok (.iconst 3, 1) := by decide +kernel
theorem dX4_init_33 : decode cX4_init 33 = .ok (.newarray .int, 2) := by decide +kernel
theorem dX4_init_35 : decode cX4_init 35 = .ok (.putfield 21, 3) := by decide +kernel
theorem dX4_init_38 : decode cX4_init 38 = .ok (.aload_n 0, 1) := by decide +kernel
theorem dX4_init_39 : decode cX4_init 39 = .ok (.new 24, 3) := by decide +kernel
theorem dX4_init_42 : decode cX4_init 42 = .ok (.dup, 1) := by decide +kernel
theorem dX4_init_43 : decode cX4_init 43 = .ok (.iconst 0, 1) := by decide +kernel
theorem dX4_init_44 : decode cX4_init 44 = .ok (.invokespecial 26, 3) := by decide +kernel
theorem dX4_init_47 : decode cX4_init 47 = .ok (.putfield 29, 3) := by decide +kernel
theorem dX4_init_50 : decode cX4_init 50 = .ok (.aload_n 0, 1) := by decide +kernel
theorem dX4_init_51 : decode cX4_init 51 = .ok (.aload_n 0, 1) := by decide +kernel
theorem dX4_init_52 : decode cX4_init 52 = .ok (.getfield 29, 3) := by decide +kernel
theorem dX4_init_55 : decode cX4_init 55 = .ok (.putfield 33, 3) := by decide +kernel
theorem dX4_init_58 : decode cX4_init 58 = .ok (.aload_n 0, 1) := by decide +kernel
theorem dX4_init_59 : decode cX4_init 59 = .ok (.aload_n 0, 1) := by decide +kernel
theorem dX4_init_60 : decode cX4_init 60 = .ok (.getfield 29, 3) := by decide +kernel
theorem dX4_init_63 : decode cX4_init 63 = .ok (.putfield 36, 3) := by decide +kernel
theorem dX4_init_66 : decode cX4_init 66 = .ok (.return_, 1) := by decide +kernel
theorem dX4_countWays_0 : decode cX4_countWays 0 = .ok (.aload_n 0, 1) := by decide +kernel
theorem dX4_countWays_1 : decode cX4_countWays 1 = .ok (.getfield 11, 3) := by decide +kernel
theorem dX4_countWays_4 : decode cX4_countWays 4 = .ok (.iconst 0, 1) := by decide +kernel
theorem dX4_countWays_5 : decode cX4_countWays 5 = .ok (.invokestatic 47, 3) := by decide +kernel
theorem dX4_countWays_8 : decode cX4_countWays 8 = .ok (.aload_n 0, 1) := by decide +kernel
theorem dX4_countWays_9 : decode cX4_countWays 9 = .ok (.getfield 11, 3) := by decide +kernel
theorem dX4_countWays_12 : decode cX4_countWays 12 = .ok (.iconst 0, 1) := by decide +kernel
theorem dX4_countWays_13 : decode cX4_countWays 13 = .ok (.iconst 1, 1) := by decide +kernel
theorem dX4_countWays_14 : decode cX4_countWays 14 = .ok (.iastore, 1) := by decide +kernel
theorem dX4_countWays_15 : decode cX4_countWays 15 = .ok (.iconst 0, 1) := by decide +kernel
theorem dX4_countWays_16 : decode cX4_countWays 16 = .ok (.istore_n 3, 1) := by decide +kernel
theorem dX4_countWays_17 : decode cX4_countWays 17 = .ok (.iload_n 3, 1) := by decide +kernel
theorem dX4_countWays_18 : decode cX4_countWays 18 = .ok (.aload_n 2, 1) := by decide +kernel
theorem dX4_countWays_19 : decode cX4_countWays 19 = .ok (.getfield 39, 3) := by decide +kernel
theorem dX4_countWays_22 : decode cX4_countWays 22 = .ok (.if_icmp .ge 66, 3) := by decide +kernel
theorem dX4_countWays_88 : decode cX4_countWays 88 = .ok (.aload_n 1, 1) := by decide +kernel
theorem dX4_countWays_89 : decode cX4_countWays 89 = .ok (.getfield 39, 3) := by decide +kernel
theorem dX4_countWays_92 : decode cX4_countWays 92 = .ok (.bipush 13, 2) := by decide +kernel
theorem dX4_countWays_94 : decode cX4_countWays 94 = .ok (.if_icmp .ge 15, 3) := by decide +kernel
theorem dX4_countWays_97 : decode cX4_countWays 97 = .ok (.aload_n 0, 1) := by decide +kernel
theorem dX4_countWays_98 : decode cX4_countWays 98 = .ok (.getfield 11, 3) := by decide +kernel
theorem dX4_countWays_101 : decode cX4_countWays 101 = .ok (.aload_n 1, 1) := by decide +kernel
theorem dX4_countWays_102 : decode cX4_countWays 102 = .ok (.getfield 39, 3) := by decide +kernel
theorem dX4_countWays_105 : decode cX4_countWays 105 = .ok (.iaload, 1) := by decide +kernel
theorem dX4_countWays_106 : decode cX4_countWays 106 = .ok (.goto 4, 3) := by decide +kernel
theorem dX4_countWays_110 : decode cX4_countWays 110 = .ok (.ireturn, 1) := by decide +kernel
theorem dX4_countEdits_0 : decode cX4_countEdits 0 = .ok (.iconst 0, 1) := by decide +kernel
theorem dX4_countEdits_1 : decode cX4_countEdits 1 = .ok (.istore_n 3, 1) := by decide +kernel
theorem dX4_countEdits_2 : decode cX4_countEdits 2 = .ok (.iload_n 3, 1) := by decide +kernel
theorem dX4_countEdits_3 : decode cX4_countEdits 3 = .ok (.aload_n 1, 1) := by decide +kernel
theorem dX4_countEdits_4 : decode cX4_countEdits 4 = .ok (.getfield 39, 3) := by decide +kernel
theorem dX4_countEdits_7 : decode cX4_countEdits 7 = .ok (.if_icmp .gt 43, 3) := by decide +kernel
theorem dX4_countEdits_10 : decode cX4_countEdits 10 = .ok (.iconst 0, 1) := by decide +kernel
theorem dX4_countEdits_11 : decode cX4_countEdits 11 = .ok (.istore 4, 2) := by decide +kernel
theorem dX4_countEdits_13 : decode cX4_countEdits 13 = .ok (.iload 4, 2) := by decide +kernel
theorem dX4_countEdits_15 : decode cX4_countEdits 15 = .ok (.aload_n 2, 1) := by decide +kernel
theorem dX4_countEdits_16 : decode cX4_countEdits 16 = .ok (.getfield 39, 3) := by decide +kernel
theorem dX4_countEdits_19 : decode cX4_countEdits 19 = .ok (.if_icmp .gt 25, 3) := by decide +kernel
theorem dX4_countEdits_22 : decode cX4_countEdits 22 = .ok (.aload_n 0, 1) := by decide +kernel
theorem dX4_countEdits_23 : decode cX4_countEdits 23 = .ok (.iload_n 3, 1) := by decide +kernel
theorem dX4_countEdits_24 : decode cX4_countEdits 24 = .ok (.iload 4, 2) := by decide +kernel
theorem dX4_countEdits_26 : decode cX4_countEdits 26 = .ok (.aload_n 0, 1) := by decide +kernel
theorem dX4_countEdits_27 : decode cX4_countEdits 27 = .ok (.aload_n 1, 1) := by decide +kernel
theorem dX4_countEdits_28 : decode cX4_countEdits 28 = .ok (.aload_n 2, 1) := by decide +kernel
theorem dX4_countEdits_29 : decode cX4_countEdits 29 = .ok (.iload_n 3, 1) := by decide +kernel
theorem dX4_countEdits_30 : decode cX4_countEdits 30 = .ok (.iload 4, 2) := by decide +kernel
theorem dX4_countEdits_32 : decode cX4_countEdits 32 = .ok (.invokevirtual 59, 3) := by decide +kernel
theorem dX4_countEdits_35 : decode cX4_countEdits 35 = .ok (.invokevirtual 63, 3) := by decide +kernel
theorem dX4_countEdits_38 : decode cX4_countEdits 38 = .ok (.iinc 4 1, 3) := by decide +kernel
theorem dX4_countEdits_41 : decode cX4_countEdits 41 = .ok (.goto (-28), 3) := by decide +kernel
theorem dX4_countEdits_44 : decode cX4_countEdits 44 = .ok (.iinc 3 1, 3) := by decide +kernel
theorem dX4_countEdits_47 : decode cX4_countEdits 47 = .ok (.goto (-45), 3) := by decide +kernel
theorem dX4_countEdits_50 : decode cX4_countEdits 50 = .ok (.aload_n 0, 1) := by decide +kernel
theorem dX4_countEdits_51 : decode cX4_countEdits 51 = .ok (.aload_n 1, 1) := by decide +kernel
theorem dX4_countEdits_52 : decode cX4_countEdits 52 = .ok (.getfield 39, 3) := by decide +kernel
theorem dX4_countEdits_55 : decode cX4_countEdits 55 = .ok (.aload_n 2, 1) := by decide +kernel
theorem dX4_countEdits_56 : decode cX4_countEdits 56 = .ok (.getfield 39, 3) := by decide +kernel
theorem dX4_countEdits_59 : decode cX4_countEdits 59 = .ok (.invokevirtual 67, 3) := by decide +kernel
theorem dX4_countEdits_62 : decode cX4_countEdits 62 = .ok (.ireturn, 1) := by decide +kernel
theorem dX4_editsTo_0 : decode cX4_editsTo 0 = .ok (.iload_n 3, 1) := by decide +kernel
theorem dX4_editsTo_1 : decode cX4_editsTo 1 = .ok (.ifCond .eq 8, 3) := by decide +kernel
theorem dX4_editsTo_9 : decode cX4_editsTo 9 = .ok (.iload_n 3, 1) := by decide +kernel
theorem dX4_editsTo_10 : decode cX4_editsTo 10 = .ok (.iload 4, 2) := by decide +kernel
theorem dX4_editsTo_12 : decode cX4_editsTo 12 = .ok (.iadd, 1) := by decide +kernel
theorem dX4_editsTo_13 : decode cX4_editsTo 13 = .ok (.ireturn, 1) := by decide +kernel
theorem dX4_read_0 : decode cX4_read 0 = .ok (.iload_n 1, 1) := by decide +kernel
theorem dX4_read_1 : decode cX4_read 1 = .ok (.iload_n 2, 1) := by decide +kernel
theorem dX4_read_2 : decode cX4_read 2 = .ok (.invokestatic 112, 3) := by decide +kernel
theorem dX4_read_5 : decode cX4_read 5 = .ok (.ifCond .eq 17, 3) := by decide +kernel
theorem dX4_read_8 : decode cX4_read 8 = .ok (.aload_n 0, 1) := by decide +kernel
theorem dX4_read_9 : decode cX4_read 9 = .ok (.getfield 11, 3) := by decide +kernel
theorem dX4_read_12 : decode cX4_read 12 = .ok (.iload_n 1, 1) := by decide +kernel
theorem dX4_read_13 : decode cX4_read 13 = .ok (.bipush 13, 2) := by decide +kernel
theorem dX4_read_15 : decode cX4_read 15 = .ok (.imul, 1) := by decide +kernel
theorem dX4_read_16 : decode cX4_read 16 = .ok (.iload_n 2, 1) := by decide +kernel
theorem dX4_read_17 : decode cX4_read 17 = .ok (.iadd, 1) := by decide +kernel
theorem dX4_read_18 : decode cX4_read 18 = .ok (.iaload, 1) := by decide +kernel
theorem dX4_read_19 : decode cX4_read 19 = .ok (.goto 4, 3) := by decide +kernel
theorem dX4_read_23 : decode cX4_read 23 = .ok (.ireturn, 1) := by decide +kernel
theorem dX4_write_0 : decode cX4_write 0 = .ok (.iload_n 1, 1) := by decide +kernel
theorem dX4_write_1 : decode cX4_write 1 = .ok (.iload_n 2, 1) := by decide +kernel
theorem dX4_write_2 : decode cX4_write 2 = .ok (.invokestatic 112, 3) := by decide +kernel
theorem dX4_write_5 : decode cX4_write 5 = .ok (.ifCond .eq 15, 3) := by decide +kernel
theorem dX4_write_8 : decode cX4_write 8 = .ok (.aload_n 0, 1) := by decide +kernel
theorem dX4_write_9 : decode cX4_write 9 = .ok (.getfield 11, 3) := by decide +kernel
theorem dX4_write_12 : decode cX4_write 12 = .ok (.iload_n 1, 1) := by decide +kernel
theorem dX4_write_13 : decode cX4_write 13 = .ok (.bipush 13, 2) := by decide +kernel
theorem dX4_write_15 : decode cX4_write 15 = .ok (.imul, 1) := by decide +kernel
theorem dX4_write_16 : decode cX4_write 16 = .ok (.iload_n 2, 1) := by decide +kernel
theorem dX4_write_17 : decode cX4_write 17 = .ok (.iadd, 1) := by decide +kernel
theorem dX4_write_18 : decode cX4_write 18 = .ok (.iload_n 3, 1) := by decide +kernel
theorem dX4_write_19 : decode cX4_write 19 = .ok (.iastore, 1) := by decide +kernel
theorem dX4_write_20 : decode cX4_write 20 = .ok (.return_, 1) := by decide +kernel
theorem dX4_isInGrid_0 : decode cX4_isInGrid 0 = .ok (.iload_n 0, 1) := by decide +kernel
theorem dX4_isInGrid_1 : decode cX4_isInGrid 1 = .ok (.ifCond .lt 23, 3) := by decide +kernel
theorem dX4_isInGrid_4 : decode cX4_isInGrid 4 = .ok (.iload_n 0, 1) := by decide +kernel
theorem dX4_isInGrid_5 : decode cX4_isInGrid 5 = .ok (.bipush 13, 2) := by decide +kernel
theorem dX4_isInGrid_7 : decode cX4_isInGrid 7 = .ok (.if_icmp .ge 17, 3) := by decide +kernel
theorem dX4_isInGrid_10 : decode cX4_isInGrid 10 = .ok (.iload_n 1, 1) := by decide +kernel
theorem dX4_isInGrid_11 : decode cX4_isInGrid 11 = .ok (.ifCond .lt 13, 3) := by decide +kernel
theorem dX4_isInGrid_14 : decode cX4_isInGrid 14 = .ok (.iload_n 1, 1) := by decide +kernel
theorem dX4_isInGrid_15 : decode cX4_isInGrid 15 = .ok (.bipush 13, 2) := by decide +kernel
theorem dX4_isInGrid_17 : decode cX4_isInGrid 17 = .ok (.if_icmp .ge 7, 3) := by decide +kernel
theorem dX4_isInGrid_20 : decode cX4_isInGrid 20 = .ok (.iconst 1, 1) := by decide +kernel
theorem dX4_isInGrid_21 : decode cX4_isInGrid 21 = .ok (.goto 4, 3) := by decide +kernel
theorem dX4_isInGrid_25 : decode cX4_isInGrid 25 = .ok (.ireturn, 1) := by decide +kernel
theorem dX5_init_0 : decode cX5_init 0 = .ok (.aload_n 0, 1) := by decide +kernel
theorem dX5_init_1 : decode cX5_init 1 = .ok (.invokespecial 3, 3) := by decide +kernel
theorem dX5_init_4 : decode cX5_init 4 = .ok (.aload_n 0, 1) := by decide +kernel
theorem dX5_init_5 : decode cX5_init 5 = .ok (.new 9, 3) := by decide +kernel
theorem dX5_init_8 : decode cX5_init 8 = .ok (.dup, 1) := by decide +kernel
theorem dX5_init_9 : decode cX5_init 9 = .ok (.invokespecial 11, 3) := by decide +kernel
theorem dX5_init_12 : decode cX5_init 12 = .ok (.putfield 12, 3) := by decide +kernel
theorem dX5_init_15 : decode cX5_init 15 = .ok (.aload_n 0, 1) := by decide +kernel
theorem dX5_init_16 : decode cX5_init 16 = .ok (.new 9, 3) := by decide +kernel
theorem dX5_init_19 : decode cX5_init 19 = .ok (.dup, 1) := by decide +kernel
theorem dX5_init_20 : decode cX5_init 20 = .ok (.invokespecial 11, 3) := by decide +kernel
theorem dX5_init_23 : decode cX5_init 23 = .ok (.putfield 18, 3) := by decide +kernel
theorem dX5_init_26 : decode cX5_init 26 = .ok (.aload_n 0, 1) := by decide +kernel
theorem dX5_init_27 : decode cX5_init 27 = .ok (.bipush 41, 2) := by decide +kernel
theorem dX5_init_29 : decode cX5_init 29 = .ok (.anewarray 9, 3) := by decide +kernel
theorem dX5_init_32 : decode cX5_init 32 = .ok (.putfield 21, 3) := by decide +kernel
theorem dX5_init_35 : decode cX5_init 35 = .ok (.iconst 0, 1) := by decide +kernel
theorem dX5_init_36 : decode cX5_init 36 = .ok (.istore_n 1, 1) := by decide +kernel
theorem dX5_init_37 : decode cX5_init 37 = .ok (.iload_n 1, 1) := by decide +kernel
theorem dX5_init_38 : decode cX5_init 38 = .ok (.aload_n 0, 1) := by decide +kernel
theorem dX5_init_39 : decode cX5_init 39 = .ok (.getfield 21, 3) := by decide +kernel
theorem dX5_init_42 : decode cX5_init 42 = .ok (.arraylength, 1) := by decide +kernel
theorem dX5_init_43 : decode cX5_init 43 = .ok (.if_icmp .ge 22, 3) := by decide +kernel
theorem dX5_init_46 : decode cX5_init 46 = .ok (.aload_n 0, 1) := by decide +kernel
theorem dX5_init_47 : decode cX5_init 47 = .ok (.getfield 21, 3) := by decide +kernel
theorem dX5_init_50 : decode cX5_init 50 = .ok (.iload_n 1, 1) := by decide +kernel
theorem dX5_init_51 : decode cX5_init 51 = .ok (.new 9, 3) := by decide +kernel
theorem dX5_init_54 : decode cX5_init 54 = .ok (.dup, 1) := by decide +kernel
theorem dX5_init_55 : decode cX5_init 55 = .ok (.invokespecial 11, 3) := by decide +kernel
theorem dX5_init_58 : decode cX5_init 58 = .ok (.aastore, 1) := by decide +kernel
theorem dX5_init_59 : decode cX5_init 59 = .ok (.iinc 1 1, 3) := by decide +kernel
theorem dX5_init_62 : decode cX5_init 62 = .ok (.goto (-25), 3) := by decide +kernel
theorem dX5_init_65 : decode cX5_init 65 = .ok (.aload_n 0, 1) := by decide +kernel
theorem dX5_init_66 : decode cX5_init 66 = .ok (.iconst 3, 1) := by decide +kernel
theorem dX5_init_67 : decode cX5_init 67 = .ok (.anewarray 9, 3) := by decide +kernel
theorem dX5_init_70 : decode cX5_init 70 = .ok (.putfield 25, 3) := by decide +kernel
theorem dX5_init_73 : decode cX5_init 73 = .ok (.iconst 0, 1) := by decide +kernel
theorem dX5_init_74 : decode cX5_init 74 = .ok (.istore_n 1, 1) := by decide +kernel
theorem dX5_init_75 : decode cX5_init 75 = .ok (.iload_n 1, 1) := by decide +kernel
theorem dX5_init_76 : decode cX5_init 76 = .ok (.aload_n 0, 1) := by decide +kernel
theorem dX5_init_77 : decode cX5_init 77 = .ok (.getfield 25, 3) := by decide +kernel
theorem dX5_init_80 : decode cX5_init 80 = .ok (.arraylength, 1) := by decide +kernel
theorem dX5_init_81 : decode cX5_init 81 = .ok (.if_icmp .ge 22, 3) := by decide +kernel
theorem dX5_init_84 : decode cX5_init 84 = .ok (.aload_n 0, 1) := by decide +kernel
theorem dX5_init_85 : decode cX5_init 85 = .ok (.getfield 25, 3) := by decide +kernel
theorem dX5_init_88 : decode cX5_init 88 = .ok (.iload_n 1, 1) := by decide +kernel
theorem dX5_init_89 : decode cX5_init 89 = .ok (.new 9, 3) := by decide +kernel
theorem dX5_init_92 : decode cX5_init 92 = .ok (.dup, 1) := by decide +kernel
theorem dX5_init_93 : decode cX5_init 93 = .ok (.invokespecial 11, 3) := by decide +kernel
theorem dX5_init_96 : decode cX5_init 96 = .ok (.aastore, 1) := by decide +kernel
theorem dX5_init_97 : decode cX5_init 97 = .ok (.iinc 1 1, 3) := by decide +kernel
theorem dX5_init_100 : decode cX5_init 100 = .ok (.goto (-25), 3) := by decide +kernel
theorem dX5_init_103 : decode cX5_init 103 = .ok (.aload_n 0, 1) := by decide +kernel
theorem dX5_init_104 : decode cX5_init 104 = .ok (.iconst 3, 1) := by decide +kernel
theorem dX5_init_105 : decode cX5_init 105 = .ok (.newarray .boolean, 2) := by decide +kernel
theorem dX5_init_107 : decode cX5_init 107 = .ok (.putfield 28, 3) := by decide +kernel
theorem dX5_init_110 : decode cX5_init 110 = .ok (.return_, 1) := by decide +kernel
theorem dX5_open_0 : decode cX5_open 0 = .ok (.aload_n 0, 1) := by decide +kernel
theorem dX5_open_1 : decode cX5_open 1 = .ok (.getfield 12, 3) := by decide +kernel
theorem dX5_open_4 : decode cX5_open 4 = .ok (.getfield 32, 3) := by decide +kernel
theorem dX5_open_7 : decode cX5_open 7 = .ok (.aload_n 1, 1) := by decide +kernel
theorem dX5_open_8 : decode cX5_open 8 = .ok (.getfield 36, 3) := by decide +kernel
theorem dX5_open_11 : decode cX5_open 11 = .ok (.invokevirtual 39, 3) := by decide +kernel
theorem dX5_open_14 : decode cX5_open 14 = .ok (.aload_n 0, 1) := by decide +kernel
theorem dX5_open_15 : decode cX5_open 15 = .ok (.getfield 12, 3) := by decide +kernel
theorem dX5_open_18 : decode cX5_open 18 = .ok (.iconst 0, 1) := by decide +kernel
theorem dX5_open_19 : decode cX5_open 19 = .ok (.putfield 45, 3) := by decide +kernel
theorem dX5_open_22 : decode cX5_open 22 = .ok (.aload_n 0, 1) := by decide +kernel
theorem dX5_open_23 : decode cX5_open 23 = .ok (.getfield 12, 3) := by decide +kernel
theorem dX5_open_26 : decode cX5_open 26 = .ok (.aload_n 1, 1) := by decide +kernel
theorem dX5_open_27 : decode cX5_open 27 = .ok (.getfield 49, 3) := by decide +kernel
theorem dX5_open_30 : decode cX5_open 30 = .ok (.putfield 52, 3) := by decide +kernel
theorem dX5_open_33 : decode cX5_open 33 = .ok (.aload_n 0, 1) := by decide +kernel
theorem dX5_open_34 : decode cX5_open 34 = .ok (.invokevirtual 55, 3) := by decide +kernel
theorem dX5_open_37 : decode cX5_open 37 = .ok (.iconst 0, 1) := by decide +kernel
theorem dX5_open_38 : decode cX5_open 38 = .ok (.istore_n 2, 1) := by decide +kernel
theorem dX5_open_39 : decode cX5_open 39 = .ok (.iload_n 2, 1) := by decide +kernel
theorem dX5_open_40 : decode cX5_open 40 = .ok (.aload_n 0, 1) := by decide +kernel
theorem dX5_open_41 : decode cX5_open 41 = .ok (.getfield 28, 3) := by decide +kernel
theorem dX5_open_44 : decode cX5_open 44 = .ok (.arraylength, 1) := by decide +kernel
theorem dX5_open_45 : decode cX5_open 45 = .ok (.if_icmp .ge 16, 3) := by decide +kernel
theorem dX5_open_48 : decode cX5_open 48 = .ok (.aload_n 0, 1) := by decide +kernel
theorem dX5_open_49 : decode cX5_open 49 = .ok (.getfield 28, 3) := by decide +kernel
theorem dX5_open_52 : decode cX5_open 52 = .ok (.iload_n 2, 1) := by decide +kernel
theorem dX5_open_53 : decode cX5_open 53 = .ok (.iconst 0, 1) := by decide +kernel
theorem dX5_open_54 : decode cX5_open 54 = .ok (.bastore, 1) := by decide +kernel
theorem dX5_open_55 : decode cX5_open 55 = .ok (.iinc 2 1, 3) := by decide +kernel
theorem dX5_open_58 : decode cX5_open 58 = .ok (.goto (-19), 3) := by decide +kernel
theorem dX5_open_61 : decode cX5_open 61 = .ok (.return_, 1) := by decide +kernel
theorem dX5_passOn_0 : decode cX5_passOn 0 = .ok (.aload_n 0, 1) := by decide +kernel
theorem dX5_passOn_1 : decode cX5_passOn 1 = .ok (.getfield 12, 3) := by decide +kernel
theorem dX5_passOn_4 : decode cX5_passOn 4 = .ok (.getfield 32, 3) := by decide +kernel
theorem dX5_passOn_7 : decode cX5_passOn 7 = .ok (.getfield 58, 3) := by decide +kernel
theorem dX5_passOn_10 : decode cX5_passOn 10 = .ok (.iconst 1, 1) := by decide +kernel
theorem dX5_passOn_11 : decode cX5_passOn 11 = .ok (.if_icmp .lt 16, 3) := by decide +kernel
theorem dX5_passOn_27 : decode cX5_passOn 27 = .ok (.iconst (-1), 1) := by decide +kernel
theorem dX5_passOn_28 : decode cX5_passOn 28 = .ok (.ireturn, 1) := by decide +kernel
theorem dX5_dropAt_0 : decode cX5_dropAt 0 = .ok (.aload_n 0, 1) := by decide +kernel
theorem dX5_dropAt_1 : decode cX5_dropAt 1 = .ok (.getfield 12, 3) := by decide +kernel
theorem dX5_dropAt_4 : decode cX5_dropAt 4 = .ok (.getfield 32, 3) := by decide +kernel
theorem dX5_dropAt_7 : decode cX5_dropAt 7 = .ok (.iload_n 1, 1) := by decide +kernel
theorem dX5_dropAt_8 : decode cX5_dropAt 8 = .ok (.invokevirtual 68, 3) := by decide +kernel
theorem dX5_dropAt_11 : decode cX5_dropAt 11 = .ok (.ifCond .ne 5, 3) := by decide +kernel
theorem dX5_dropAt_14 : decode cX5_dropAt 14 = .ok (.iconst (-1), 1) := by decide +kernel
theorem dX5_dropAt_15 : decode cX5_dropAt 15 = .ok (.ireturn, 1) := by decide +kernel
theorem dX5_takeBack_0 : decode cX5_takeBack 0 = .ok (.aload_n 0, 1) := by decide +kernel
theorem dX5_takeBack_1 : decode cX5_takeBack 1 = .ok (.getfield 91, 3) := by decide +kernel
theorem dX5_takeBack_4 : decode cX5_takeBack 4 = .ok (.iconst 1, 1) := by decide +kernel
theorem dX5_takeBack_5 : decode cX5_takeBack 5 = .ok (.if_icmp .ge 5, 3) := by decide +kernel
theorem dX5_takeBack_8 : decode cX5_takeBack 8 = .ok (.iconst 0, 1) := by decide +kernel
theorem dX5_takeBack_9 : decode cX5_takeBack 9 = .ok (.ireturn, 1) := by decide +kernel
theorem dX5_doAgain_0 : decode cX5_doAgain 0 = .ok (.aload_n 0, 1) := by decide +kernel
theorem dX5_doAgain_1 : decode cX5_doAgain 1 = .ok (.getfield 91, 3) := by decide +kernel
theorem dX5_doAgain_4 : decode cX5_doAgain 4 = .ok (.aload_n 0, 1) := by decide +kernel
theorem dX5_doAgain_5 : decode cX5_doAgain 5 = .ok (.getfield 97, 3) := by decide +kernel
theorem dX5_doAgain_8 : decode cX5_doAgain 8 = .ok (.if_icmp .lt 5, 3) := by decide +kernel
theorem dX5_doAgain_11 : decode cX5_doAgain 11 = .ok (.iconst 0, 1) := by decide +kernel
theorem dX5_doAgain_12 : decode cX5_doAgain 12 = .ok (.ireturn, 1) := by decide +kernel
theorem dX5_actsDone_0 : decode cX5_actsDone 0 = .ok (.aload_n 0, 1) := by decide +kernel
theorem dX5_actsDone_1 : decode cX5_actsDone 1 = .ok (.getfield 91, 3) := by decide +kernel
theorem dX5_actsDone_4 : decode cX5_actsDone 4 = .ok (.ireturn, 1) := by decide +kernel
theorem dX5_actsTakenBack_0 : decode cX5_actsTakenBack 0 = .ok (.aload_n 0, 1) := by decide +kernel
theorem dX5_actsTakenBack_1 : decode cX5_actsTakenBack 1 = .ok (.getfield 97, 3) := by decide +kernel
theorem dX5_actsTakenBack_4 : decode cX5_actsTakenBack 4 = .ok (.aload_n 0, 1) := by decide +kernel
theorem dX5_actsTakenBack_5 : decode cX5_actsTakenBack 5 = .ok (.getfield 91, 3) := by decide +kernel
theorem dX5_actsTakenBack_8 : decode cX5_actsTakenBack 8 = .ok (.isub, 1) := by decide +kernel
theorem dX5_actsTakenBack_9 : decode cX5_actsTakenBack 9 = .ok (.ireturn, 1) := by decide +kernel
theorem dX5_keepIn_0 : decode cX5_keepIn 0 = .ok (.iload_n 1, 1) := by decide +kernel
theorem dX5_keepIn_1 : decode cX5_keepIn 1 = .ok (.invokestatic 100, 3) := by decide +kernel
theorem dX5_keepIn_4 : decode cX5_keepIn 4 = .ok (.ifCond .ne 5, 3) := by decide +kernel
theorem dX5_keepIn_7 : decode cX5_keepIn 7 = .ok (.iconst (-1), 1) := by decide +kernel
theorem dX5_keepIn_8 : decode cX5_keepIn 8 = .ok (.ireturn, 1) := by decide +kernel
theorem dX5_keepIn_9 : decode cX5_keepIn 9 = .ok (.aload_n 0, 1) := by decide +kernel
theorem dX5_keepIn_10 : decode cX5_keepIn 10 = .ok (.getfield 25, 3) := by decide +kernel
theorem dX5_keepIn_13 : decode cX5_keepIn 13 = .ok (.iload_n 1, 1) := by decide +kernel
theorem dX5_keepIn_14 : decode cX5_keepIn 14 = .ok (.aaload, 1) := by decide +kernel
theorem dX5_keepIn_15 : decode cX5_keepIn 15 = .ok (.aload_n 0, 1) := by decide +kernel
theorem dX5_keepIn_16 : decode cX5_keepIn 16 = .ok (.getfield 12, 3) := by decide +kernel
theorem dX5_keepIn_19 : decode cX5_keepIn 19 = .ok (.invokevirtual 103, 3) := by decide +kernel
theorem dX5_keepIn_22 : decode cX5_keepIn 22 = .ok (.aload_n 0, 1) := by decide +kernel
theorem dX5_keepIn_23 : decode cX5_keepIn 23 = .ok (.getfield 28, 3) := by decide +kernel
theorem dX5_keepIn_26 : decode cX5_keepIn 26 = .ok (.iload_n 1, 1) := by decide +kernel
theorem dX5_keepIn_27 : decode cX5_keepIn 27 = .ok (.iconst 1, 1) := by decide +kernel
theorem dX5_keepIn_28 : decode cX5_keepIn 28 = .ok (.bastore, 1) := by decide +kernel
theorem dX5_keepIn_29 : decode cX5_keepIn 29 = .ok (.aload_n 0, 1) := by decide +kernel
theorem dX5_keepIn_30 : decode cX5_keepIn 30 = .ok (.getfield 12, 3) := by decide +kernel
theorem dX5_keepIn_33 : decode cX5_keepIn 33 = .ok (.getfield 45, 3) := by decide +kernel
theorem dX5_keepIn_36 : decode cX5_keepIn 36 = .ok (.ireturn, 1) := by decide +kernel
theorem dX5_bringBack_0 : decode cX5_bringBack 0 = .ok (.iload_n 1, 1) := by decide +kernel
theorem dX5_bringBack_1 : decode cX5_bringBack 1 = .ok (.invokestatic 100, 3) := by decide +kernel
theorem dX5_bringBack_4 : decode cX5_bringBack 4 = .ok (.ifCond .eq 12, 3) := by decide +kernel
theorem dX5_bringBack_7 : decode cX5_bringBack 7 = .ok (.aload_n 0, 1) := by decide +kernel
theorem dX5_bringBack_8 : decode cX5_bringBack 8 = .ok (.getfield 28, 3) := by decide +kernel
theorem dX5_bringBack_11 : decode cX5_bringBack 11 = .ok (.iload_n 1, 1) := by decide +kernel
theorem dX5_bringBack_12 : decode cX5_bringBack 12 = .ok (.baload, 1) := by decide +kernel
theorem dX5_bringBack_13 : decode cX5_bringBack 13 = .ok (.ifCond .ne 5, 3) := by decide +kernel
theorem dX5_bringBack_16 : decode cX5_bringBack 16 = .ok (.iconst (-1), 1) := by decide +kernel
theorem dX5_bringBack_17 : decode cX5_bringBack 17 = .ok (.ireturn, 1) := by decide +kernel
theorem dX5_rowAfter_0 : decode cX5_rowAfter 0 = .ok (.aload_n 0, 1) := by decide +kernel
theorem dX5_rowAfter_1 : decode cX5_rowAfter 1 = .ok (.getfield 18, 3) := by decide +kernel
theorem dX5_rowAfter_4 : decode cX5_rowAfter 4 = .ok (.aload_n 0, 1) := by decide +kernel
theorem dX5_rowAfter_5 : decode cX5_rowAfter 5 = .ok (.getfield 12, 3) := by decide +kernel
theorem dX5_rowAfter_8 : decode cX5_rowAfter 8 = .ok (.invokevirtual 103, 3) := by decide +kernel
theorem dX5_rowAfter_11 : decode cX5_rowAfter 11 = .ok (.iconst 0, 1) := by decide +kernel
theorem dX5_rowAfter_12 : decode cX5_rowAfter 12 = .ok (.istore 4, 2) := by decide +kernel
theorem dX5_rowAfter_14 : decode cX5_rowAfter 14 = .ok (.iload 4, 2) := by decide +kernel
theorem dX5_rowAfter_16 : decode cX5_rowAfter 16 = .ok (.iload_n 3, 1) := by decide +kernel
theorem dX5_rowAfter_17 : decode cX5_rowAfter 17 = .ok (.if_icmp .ge 19, 3) := by decide +kernel
theorem dX5_rowAfter_20 : decode cX5_rowAfter 20 = .ok (.aload_n 0, 1) := by decide +kernel
theorem dX5_rowAfter_21 : decode cX5_rowAfter 21 = .ok (.getfield 18, 3) := by decide +kernel
theorem dX5_rowAfter_24 : decode cX5_rowAfter 24 = .ok (.aload_n 1, 1) := by decide +kernel
theorem dX5_rowAfter_25 : decode cX5_rowAfter 25 = .ok (.iload_n 2, 1) := by decide +kernel
theorem dX5_rowAfter_26 : decode cX5_rowAfter 26 = .ok (.invokevirtual 61, 3) := by decide +kernel
theorem dX5_rowAfter_29 : decode cX5_rowAfter 29 = .ok (.pop, 1) := by decide +kernel
theorem dX5_rowAfter_30 : decode cX5_rowAfter 30 = .ok (.iinc 4 1, 3) := by decide +kernel
theorem dX5_rowAfter_33 : decode cX5_rowAfter 33 = .ok (.goto (-19), 3) := by decide +kernel
theorem dX5_rowAfter_36 : decode cX5_rowAfter 36 = .ok (.aload_n 0, 1) := by decide +kernel
theorem dX5_rowAfter_37 : decode cX5_rowAfter 37 = .ok (.getfield 18, 3) := by decide +kernel
theorem dX5_rowAfter_40 : decode cX5_rowAfter 40 = .ok (.getfield 32, 3) := by decide +kernel
theorem dX5_rowAfter_43 : decode cX5_rowAfter 43 = .ok (.areturn, 1) := by decide +kernel
theorem dX5_hasBox_0 : decode cX5_hasBox 0 = .ok (.iload_n 0, 1) := by decide +kernel
theorem dX5_hasBox_1 : decode cX5_hasBox 1 = .ok (.ifCond .lt 12, 3) := by decide +kernel
theorem dX5_hasBox_4 : decode cX5_hasBox 4 = .ok (.iload_n 0, 1) := by decide +kernel
theorem dX5_hasBox_5 : decode cX5_hasBox 5 = .ok (.iconst 3, 1) := by decide +kernel
theorem dX5_hasBox_6 : decode cX5_hasBox 6 = .ok (.if_icmp .ge 7, 3) := by decide +kernel
theorem dX5_hasBox_9 : decode cX5_hasBox 9 = .ok (.iconst 1, 1) := by decide +kernel
theorem dX5_hasBox_10 : decode cX5_hasBox 10 = .ok (.goto 4, 3) := by decide +kernel
theorem dX5_hasBox_13 : decode cX5_hasBox 13 = .ok (.iconst 0, 1) := by decide +kernel
theorem dX5_hasBox_14 : decode cX5_hasBox 14 = .ok (.ireturn, 1) := by decide +kernel
theorem dX5_forgetActs_0 : decode cX5_forgetActs 0 = .ok (.aload_n 0, 1) := by decide +kernel
theorem dX5_forgetActs_1 : decode cX5_forgetActs 1 = .ok (.iconst 0, 1) := by decide +kernel
theorem dX5_forgetActs_2 : decode cX5_forgetActs 2 = .ok (.putfield 91, 3) := by decide +kernel
theorem dX5_forgetActs_5 : decode cX5_forgetActs 5 = .ok (.aload_n 0, 1) := by decide +kernel
theorem dX5_forgetActs_6 : decode cX5_forgetActs 6 = .ok (.iconst 0, 1) := by decide +kernel
theorem dX5_forgetActs_7 : decode cX5_forgetActs 7 = .ok (.putfield 97, 3) := by decide +kernel
theorem dX5_forgetActs_10 : decode cX5_forgetActs 10 = .ok (.aload_n 0, 1) := by decide +kernel
theorem dX5_forgetActs_11 : decode cX5_forgetActs 11 = .ok (.getfield 21, 3) := by decide +kernel
theorem dX5_forgetActs_14 : decode cX5_forgetActs 14 = .ok (.iconst 0, 1) := by decide +kernel
theorem dX5_forgetActs_15 : decode cX5_forgetActs 15 = .ok (.aaload, 1) := by decide +kernel
theorem dX5_forgetActs_16 : decode cX5_forgetActs 16 = .ok (.aload_n 0, 1) := by decide +kernel
theorem dX5_forgetActs_17 : decode cX5_forgetActs 17 = .ok (.getfield 12, 3) := by decide +kernel
theorem dX5_forgetActs_20 : decode cX5_forgetActs 20 = .ok (.invokevirtual 103, 3) := by decide +kernel
theorem dX5_forgetActs_23 : decode cX5_forgetActs 23 = .ok (.return_, 1) := by decide +kernel
theorem dX6_init_0 : decode cX6_init 0 = .ok (.aload_n 0, 1) := by decide +kernel
theorem dX6_init_1 : decode cX6_init 1 = .ok (.invokespecial 3, 3) := by decide +kernel
theorem dX6_init_4 : decode cX6_init 4 = .ok (.aload_n 0, 1) := by decide +kernel
theorem dX6_init_5 : decode cX6_init 5 = .ok (.new 9, 3) := by decide +kernel
theorem dX6_init_8 : decode cX6_init 8 = .ok (.dup, 1) := by decide +kernel
theorem dX6_init_9 : decode cX6_init 9 = .ok (.invokespecial 11, 3) := by decide +kernel
theorem dX6_init_12 : decode cX6_init 12 = .ok (.putfield 12, 3) := by decide +kernel
theorem dX6_init_15 : decode cX6_init 15 = .ok (.aload_n 0, 1) := by decide +kernel
theorem dX6_init_16 : decode cX6_init 16 = .ok (.new 18, 3) := by decide +kernel
theorem dX6_init_19 : decode cX6_init 19 = .ok (.dup, 1) := by decide +kernel
theorem dX6_init_20 : decode cX6_init 20 = .ok (.invokespecial 20, 3) := by decide +kernel
theorem dX6_init_23 : decode cX6_init 23 = .ok (.putfield 21, 3) := by decide +kernel
theorem dX6_init_26 : decode cX6_init 26 = .ok (.aload_n 0, 1) := by decide +kernel
theorem dX6_init_27 : decode cX6_init 27 = .ok (.iconst 0, 1) := by decide +kernel
theorem dX6_init_28 : decode cX6_init 28 = .ok (.putfield 25, 3) := by decide +kernel
theorem dX6_init_31 : decode cX6_init 31 = .ok (.aload_n 0, 1) := by decide +kernel
theorem dX6_init_32 : decode cX6_init 32 = .ok (.iconst (-1), 1) := by decide +kernel
theorem dX6_init_33 : decode cX6_init 33 = .ok (.putfield 29, 3) := by decide +kernel
theorem dX6_init_36 : decode cX6_init 36 = .ok (.return_, 1) := by decide +kernel
theorem dX6_readTable_0 : decode cX6_readTable 0 = .ok (.aload_n 0, 1) := by decide +kernel
theorem dX6_readTable_1 : decode cX6_readTable 1 = .ok (.iconst 0, 1) := by decide +kernel
theorem dX6_readTable_2 : decode cX6_readTable 2 = .ok (.putfield 25, 3) := by decide +kernel
theorem dX6_readTable_5 : decode cX6_readTable 5 = .ok (.aload_n 0, 1) := by decide +kernel
theorem dX6_readTable_6 : decode cX6_readTable 6 = .ok (.iconst (-1), 1) := by decide +kernel
theorem dX6_readTable_7 : decode cX6_readTable 7 = .ok (.putfield 29, 3) := by decide +kernel
theorem dX6_readTable_10 : decode cX6_readTable 10 = .ok (.aload_n 0, 1) := by decide +kernel
theorem dX6_readTable_11 : decode cX6_readTable 11 = .ok (.getfield 21, 3) := by decide +kernel
theorem dX6_readTable_14 : decode cX6_readTable 14 = .ok (.invokevirtual 32, 3) := by decide +kernel
theorem dX6_readTable_17 : decode cX6_readTable 17 = .ok (.aload_n 0, 1) := by decide +kernel
theorem dX6_readTable_18 : decode cX6_readTable 18 = .ok (.getfield 12, 3) := by decide +kernel
theorem dX6_readTable_21 : decode cX6_readTable 21 = .ok (.invokevirtual 35, 3) := by decide +kernel
theorem dX6_readTable_24 : decode cX6_readTable 24 = .ok (.iconst 0, 1) := by decide +kernel
theorem dX6_readTable_25 : decode cX6_readTable 25 = .ok (.istore_n 1, 1) := by decide +kernel
theorem dX6_readTable_26 : decode cX6_readTable 26 = .ok (.iload_n 1, 1) := by decide +kernel
theorem dX6_readTable_27 : decode cX6_readTable 27 = .ok (.sipush 1600, 3) := by decide +kernel
theorem dX6_readTable_30 : decode cX6_readTable 30 = .ok (.if_icmp .ge 143, 3) := by decide +kernel
theorem dX6_readTable_33 : decode cX6_readTable 33 = .ok (.aload_n 0, 1) := by decide +kernel
theorem dX6_readTable_34 : decode cX6_readTable 34 = .ok (.getfield 25, 3) := by decide +kernel
theorem dX6_readTable_37 : decode cX6_readTable 37 = .ok (.ifCond .ne 136, 3) := by decide +kernel
theorem dX6_readTable_40 : decode cX6_readTable 40 = .ok (.aload_n 0, 1) := by decide +kernel
theorem dX6_readTable_41 : decode cX6_readTable 41 = .ok (.getfield 12, 3) := by decide +kernel
theorem dX6_readTable_44 : decode cX6_readTable 44 = .ok (.getfield 38, 3) := by decide +kernel
theorem dX6_readTable_47 : decode cX6_readTable 47 = .ok (.iconst (-1), 1) := by decide +kernel
theorem dX6_readTable_48 : decode cX6_readTable 48 = .ok (.if_icmp .eq 125, 3) := by decide +kernel
theorem dX6_readTable_173 : decode cX6_readTable 173 = .ok (.aload_n 0, 1) := by decide +kernel
theorem dX6_readTable_174 : decode cX6_readTable 174 = .ok (.getfield 25, 3) := by decide +kernel
theorem dX6_readTable_177 : decode cX6_readTable 177 = .ok (.ifCond .ne 7, 3) := by decide +kernel
theorem dX6_readTable_180 : decode cX6_readTable 180 = .ok (.iconst 1, 1) := by decide +kernel
theorem dX6_readTable_181 : decode cX6_readTable 181 = .ok (.goto 4, 3) := by decide +kernel
theorem dX6_readTable_185 : decode cX6_readTable 185 = .ok (.ireturn, 1) := by decide +kernel
theorem dX6_handOver_0 : decode cX6_handOver 0 = .ok (.aload_n 0, 1) := by decide +kernel
theorem dX6_handOver_1 : decode cX6_handOver 1 = .ok (.getfield 21, 3) := by decide +kernel
theorem dX6_handOver_4 : decode cX6_handOver 4 = .ok (.astore_n 2, 1) := by decide +kernel
theorem dX6_handOver_5 : decode cX6_handOver 5 = .ok (.aload_n 0, 1) := by decide +kernel
theorem dX6_handOver_6 : decode cX6_handOver 6 = .ok (.aload_n 1, 1) := by decide +kernel
theorem dX6_handOver_7 : decode cX6_handOver 7 = .ok (.putfield 21, 3) := by decide +kernel
theorem dX6_handOver_10 : decode cX6_handOver 10 = .ok (.aload_n 2, 1) := by decide +kernel
theorem dX6_handOver_11 : decode cX6_handOver 11 = .ok (.areturn, 1) := by decide +kernel
theorem dX7_init_0 : decode cX7_init 0 = .ok (.aload_n 0, 1) := by decide +kernel
theorem dX7_init_1 : decode cX7_init 1 = .ok (.invokespecial 3, 3) := by decide +kernel
theorem dX7_init_4 : decode cX7_init 4 = .ok (.aload_n 0, 1) := by decide +kernel
theorem dX7_init_5 : decode cX7_init 5 = .ok (.iconst 5, 1) := by decide +kernel
theorem dX7_init_6 : decode cX7_init 6 = .ok (.newarray .int, 2) := by decide +kernel
theorem dX7_init_8 : decode cX7_init 8 = .ok (.putfield 9, 3) := by decide +kernel
theorem dX7_init_11 : decode cX7_init 11 = .ok (.aload_n 0, 1) := by decide +kernel
theorem dX7_init_12 : decode cX7_init 12 = .ok (.bipush 30, 2) := by decide +kernel
theorem dX7_init_14 : decode cX7_init 14 = .ok (.newarray .int, 2) := by decide +kernel
theorem dX7_init_16 : decode cX7_init 16 = .ok (.putfield 15, 3) := by decide +kernel
theorem dX7_init_19 : decode cX7_init 19 = .ok (.aload_n 0, 1) := by decide +kernel
theorem dX7_init_20 : decode cX7_init 20 = .ok (.bipush 30, 2) := by decide +kernel
theorem dX7_init_22 : decode cX7_init 22 = .ok (.newarray .int, 2) := by decide +kernel
theorem dX7_init_24 : decode cX7_init 24 = .ok (.putfield 18, 3) := by decide +kernel
theorem dX7_init_27 : decode cX7_init 27 = .ok (.aload_n 0, 1) := by decide +kernel
theorem dX7_init_28 : decode cX7_init 28 = .ok (.bipush 30, 2) := by decide +kernel
theorem dX7_init_30 : decode cX7_init 30 = .ok (.newarray .int, 2) := by decide +kernel
theorem dX7_init_32 : decode cX7_init 32 = .ok (.putfield 21, 3) := by decide +kernel
theorem dX7_init_35 : decode cX7_init 35 = .ok (.aload_n 0, 1) := by decide +kernel
theorem dX7_init_36 : decode cX7_init 36 = .ok (.bipush 30, 2) := by decide +kernel
theorem dX7_init_38 : decode cX7_init 38 = .ok (.newarray .int, 2) := by decide +kernel
theorem dX7_init_40 : decode cX7_init 40 = .ok (.putfield 24, 3) := by decide +kernel
theorem dX7_init_43 : decode cX7_init 43 = .ok (.aload_n 0, 1) := by decide +kernel
theorem dX7_init_44 : decode cX7_init 44 = .ok (.iconst 5, 1) := by decide +kernel
theorem dX7_init_45 : decode cX7_init 45 = .ok (.newarray .int, 2) := by decide +kernel
theorem dX7_init_47 : decode cX7_init 47 = .ok (.putfield 27, 3) := by decide +kernel
theorem dX7_init_50 : decode cX7_init 50 = .ok (.aload_n 0, 1) := by decide +kernel
theorem dX7_init_51 : decode cX7_init 51 = .ok (.iconst 5, 1) := by decide +kernel
theorem dX7_init_52 : decode cX7_init 52 = .ok (.newarray .int, 2) := by decide +kernel
theorem dX7_init_54 : decode cX7_init 54 = .ok (.putfield 30, 3) := by decide +kernel
theorem dX7_init_57 : decode cX7_init 57 = .ok (.aload_n 0, 1) := by decide +kernel
theorem dX7_init_58 : decode cX7_init 58 = .ok (.bipush 25, 2) := by decide +kernel
theorem dX7_init_60 : decode cX7_init 60 = .ok (.newarray .int, 2) := by decide +kernel
theorem dX7_init_62 : decode cX7_init 62 = .ok (.putfield 33, 3) := by decide +kernel
theorem dX7_init_65 : decode cX7_init 65 = .ok (.aload_n 0, 1) := by decide +kernel
theorem dX7_init_66 : decode cX7_init 66 = .ok (.new 36, 3) := by decide +kernel
theorem dX7_init_69 : decode cX7_init 69 = .ok (.dup, 1) := by decide +kernel
theorem dX7_init_70 : decode cX7_init 70 = .ok (.iconst 5, 1) := by decide +kernel
theorem dX7_init_71 : decode cX7_init 71 = .ok (.invokespecial 38, 3) := by decide +kernel
theorem dX7_init_74 : decode cX7_init 74 = .ok (.putfield 41, 3) := by decide +kernel
theorem dX7_init_77 : decode cX7_init 77 = .ok (.return_, 1) := by decide +kernel
theorem dX7_open_0 : decode cX7_open 0 = .ok (.aload_n 0, 1) := by decide +kernel
theorem dX7_open_1 : decode cX7_open 1 = .ok (.aload_n 1, 1) := by decide +kernel
theorem dX7_open_2 : decode cX7_open 2 = .ok (.getfield 45, 3) := by decide +kernel
theorem dX7_open_5 : decode cX7_open 5 = .ok (.iconst 5, 1) := by decide +kernel
theorem dX7_open_6 : decode cX7_open 6 = .ok (.invokestatic 51, 3) := by decide +kernel
theorem dX7_open_9 : decode cX7_open 9 = .ok (.putfield 57, 3) := by decide +kernel
theorem dX7_open_12 : decode cX7_open 12 = .ok (.aload_n 0, 1) := by decide +kernel
theorem dX7_open_13 : decode cX7_open 13 = .ok (.iconst 0, 1) := by decide +kernel
theorem dX7_open_14 : decode cX7_open 14 = .ok (.putfield 58, 3) := by decide +kernel
theorem dX7_open_17 : decode cX7_open 17 = .ok (.iconst 0, 1) := by decide +kernel
theorem dX7_open_18 : decode cX7_open 18 = .ok (.istore_n 3, 1) := by decide +kernel
theorem dX7_open_19 : decode cX7_open 19 = .ok (.iload_n 3, 1) := by decide +kernel
theorem dX7_open_20 : decode cX7_open 20 = .ok (.aload_n 0, 1) := by decide +kernel
theorem dX7_open_21 : decode cX7_open 21 = .ok (.getfield 57, 3) := by decide +kernel
theorem dX7_open_24 : decode cX7_open 24 = .ok (.if_icmp .ge 83, 3) := by decide +kernel
theorem dX7_open_107 : decode cX7_open 107 = .ok (.return_, 1) := by decide +kernel
theorem dX7_untellNow_0 : decode cX7_untellNow 0 = .ok (.iload_n 1, 1) := by decide +kernel
theorem dX7_untellNow_1 : decode cX7_untellNow 1 = .ok (.ifCond .lt 21, 3) := by decide +kernel
theorem dX7_untellNow_4 : decode cX7_untellNow 4 = .ok (.iload_n 1, 1) := by decide +kernel
theorem dX7_untellNow_5 : decode cX7_untellNow 5 = .ok (.aload_n 0, 1) := by decide +kernel
theorem dX7_untellNow_6 : decode cX7_untellNow 6 = .ok (.getfield 58, 3) := by decide +kernel
theorem dX7_untellNow_9 : decode cX7_untellNow 9 = .ok (.if_icmp .ge 13, 3) := by decide +kernel
theorem dX7_untellNow_22 : decode cX7_untellNow 22 = .ok (.iconst 0, 1) := by decide +kernel
theorem dX7_untellNow_23 : decode cX7_untellNow 23 = .ok (.ireturn, 1) := by decide +kernel
theorem dX7_goOn_0 : decode cX7_goOn 0 = .ok (.aload_n 0, 1) := by decide +kernel
theorem dX7_goOn_1 : decode cX7_goOn 1 = .ok (.getfield 71, 3) := by decide +kernel
theorem dX7_goOn_4 : decode cX7_goOn 4 = .ok (.iload_n 1, 1) := by decide +kernel
theorem dX7_goOn_5 : decode cX7_goOn 5 = .ok (.iadd, 1) := by decide +kernel
theorem dX7_goOn_6 : decode cX7_goOn 6 = .ok (.ldc 74, 2) := by decide +kernel
theorem dX7_goOn_8 : decode cX7_goOn 8 = .ok (.if_icmp .le 5, 3) := by decide +kernel
theorem dX7_goOn_11 : decode cX7_goOn 11 = .ok (.iconst (-1), 1) := by decide +kernel
theorem dX7_goOn_12 : decode cX7_goOn 12 = .ok (.ireturn, 1) := by decide +kernel
theorem dX7_goOn_13 : decode cX7_goOn 13 = .ok (.aload_n 0, 1) := by decide +kernel
theorem dX7_goOn_14 : decode cX7_goOn 14 = .ok (.dup, 1) := by decide +kernel
theorem dX7_goOn_15 : decode cX7_goOn 15 = .ok (.getfield 71, 3) := by decide +kernel
theorem dX7_goOn_18 : decode cX7_goOn 18 = .ok (.iload_n 1, 1) := by decide +kernel
theorem dX7_goOn_19 : decode cX7_goOn 19 = .ok (.iadd, 1) := by decide +kernel
theorem dX7_goOn_20 : decode cX7_goOn 20 = .ok (.putfield 71, 3) := by decide +kernel
theorem dX7_goOn_23 : decode cX7_goOn 23 = .ok (.aload_n 0, 1) := by decide +kernel
theorem dX7_goOn_24 : decode cX7_goOn 24 = .ok (.getfield 71, 3) := by decide +kernel
theorem dX7_goOn_27 : decode cX7_goOn 27 = .ok (.ireturn, 1) := by decide +kernel
theorem dX7_countUnhinted_0 : decode cX7_countUnhinted 0 = .ok (.aload_n 0, 1) := by decide +kernel
theorem dX7_countUnhinted_1 : decode cX7_countUnhinted 1 = .ok (.iconst (-1), 1) := by decide +kernel
theorem dX7_countUnhinted_2 : decode cX7_countUnhinted 2 = .ok (.invokevirtual 75, 3) := by decide +kernel
theorem dX7_countUnhinted_5 : decode cX7_countUnhinted 5 = .ok (.ireturn, 1) := by decide +kernel
theorem dX7_countKnown_0 : decode cX7_countKnown 0 = .ok (.aload_n 0, 1) := by decide +kernel
theorem dX7_countKnown_1 : decode cX7_countKnown 1 = .ok (.iconst 0, 1) := by decide +kernel
theorem dX7_countKnown_2 : decode cX7_countKnown 2 = .ok (.putfield 79, 3) := by decide +kernel
theorem dX7_countKnown_5 : decode cX7_countKnown 5 = .ok (.aload_n 0, 1) := by decide +kernel
theorem dX7_countKnown_6 : decode cX7_countKnown 6 = .ok (.getfield 41, 3) := by decide +kernel
theorem dX7_countKnown_9 : decode cX7_countKnown 9 = .ok (.invokevirtual 82, 3) := by decide +kernel
theorem dX7_countKnown_12 : decode cX7_countKnown 12 = .ok (.aload_n 0, 1) := by decide +kernel
theorem dX7_countKnown_13 : decode cX7_countKnown 13 = .ok (.getfield 33, 3) := by decide +kernel
theorem dX7_countKnown_16 : decode cX7_countKnown 16 = .ok (.iconst 0, 1) := by decide +kernel
theorem dX7_countKnown_17 : decode cX7_countKnown 17 = .ok (.invokestatic 85, 3) := by decide +kernel
theorem dX7_countKnown_20 : decode cX7_countKnown 20 = .ok (.aload_n 0, 1) := by decide +kernel
theorem dX7_countKnown_21 : decode cX7_countKnown 21 = .ok (.getfield 27, 3) := by decide +kernel
theorem dX7_countKnown_24 : decode cX7_countKnown 24 = .ok (.iconst 0, 1) := by decide +kernel
theorem dX7_countKnown_25 : decode cX7_countKnown 25 = .ok (.invokestatic 85, 3) := by decide +kernel
theorem dX7_countKnown_28 : decode cX7_countKnown 28 = .ok (.iconst 0, 1) := by decide +kernel
theorem dX7_countKnown_29 : decode cX7_countKnown 29 = .ok (.istore_n 2, 1) := by decide +kernel
theorem dX7_countKnown_30 : decode cX7_countKnown 30 = .ok (.iload_n 2, 1) := by decide +kernel
theorem dX7_countKnown_31 : decode cX7_countKnown 31 = .ok (.aload_n 0, 1) := by decide +kernel
theorem dX7_countKnown_32 : decode cX7_countKnown 32 = .ok (.getfield 58, 3) := by decide +kernel
theorem dX7_countKnown_35 : decode cX7_countKnown 35 = .ok (.if_icmp .ge 61, 3) := by decide +kernel
theorem dX7_countKnown_96 : decode cX7_countKnown 96 = .ok (.aload_n 0, 1) := by decide +kernel
theorem dX7_countKnown_97 : decode cX7_countKnown 97 = .ok (.iconst 0, 1) := by decide +kernel
theorem dX7_countKnown_98 : decode cX7_countKnown 98 = .ok (.iconst 0, 1) := by decide +kernel
theorem dX7_countKnown_99 : decode cX7_countKnown 99 = .ok (.invokevirtual 95, 3) := by decide +kernel
theorem dX7_countKnown_102 : decode cX7_countKnown 102 = .ok (.aload_n 0, 1) := by decide +kernel
theorem dX7_countKnown_103 : decode cX7_countKnown 103 = .ok (.getfield 79, 3) := by decide +kernel
theorem dX7_countKnown_106 : decode cX7_countKnown 106 = .ok (.ireturn, 1) := by decide +kernel
theorem dX7_seatFrom_0 : decode cX7_seatFrom 0 = .ok (.iload_n 1, 1) := by decide +kernel
theorem dX7_seatFrom_1 : decode cX7_seatFrom 1 = .ok (.aload_n 0, 1) := by decide +kernel
theorem dX7_seatFrom_2 : decode cX7_seatFrom 2 = .ok (.getfield 57, 3) := by decide +kernel
theorem dX7_seatFrom_5 : decode cX7_seatFrom 5 = .ok (.if_icmp .ge 12, 3) := by decide +kernel
theorem dX7_seatFrom_17 : decode cX7_seatFrom 17 = .ok (.aload_n 0, 1) := by decide +kernel
theorem dX7_seatFrom_18 : decode cX7_seatFrom 18 = .ok (.invokevirtual 108, 3) := by decide +kernel
theorem dX7_seatFrom_21 : decode cX7_seatFrom 21 = .ok (.return_, 1) := by decide +kernel
theorem dX7_noteOrder_0 : decode cX7_noteOrder 0 = .ok (.iconst 0, 1) := by decide +kernel
theorem dX7_noteOrder_1 : decode cX7_noteOrder 1 = .ok (.istore_n 1, 1) := by decide +kernel
theorem dX7_noteOrder_2 : decode cX7_noteOrder 2 = .ok (.iload_n 1, 1) := by decide +kernel
theorem dX7_noteOrder_3 : decode cX7_noteOrder 3 = .ok (.aload_n 0, 1) := by decide +kernel
theorem dX7_noteOrder_4 : decode cX7_noteOrder 4 = .ok (.getfield 57, 3) := by decide +kernel
theorem dX7_noteOrder_7 : decode cX7_noteOrder 7 = .ok (.if_icmp .ge 48, 3) := by decide +kernel
theorem dX7_noteOrder_55 : decode cX7_noteOrder 55 = .ok (.aload_n 0, 1) := by decide +kernel
theorem dX7_noteOrder_56 : decode cX7_noteOrder 56 = .ok (.dup, 1) := by decide +kernel
theorem dX7_noteOrder_57 : decode cX7_noteOrder 57 = .ok (.getfield 79, 3) := by decide +kernel
theorem dX7_noteOrder_60 : decode cX7_noteOrder 60 = .ok (.iconst 1, 1) := by decide +kernel
theorem dX7_noteOrder_61 : decode cX7_noteOrder 61 = .ok (.iadd, 1) := by decide +kernel
theorem dX7_noteOrder_62 : decode cX7_noteOrder 62 = .ok (.putfield 79, 3) := by decide +kernel
theorem dX7_noteOrder_65 : decode cX7_noteOrder 65 = .ok (.return_, 1) := by decide +kernel
theorem dX8_init_0 : decode cX8_init 0 = .ok (.aload_n 0, 1) := by decide +kernel
theorem dX8_init_1 : decode cX8_init 1 = .ok (.invokespecial 3, 3) := by decide +kernel
theorem dX8_init_4 : decode cX8_init 4 = .ok (.aload_n 0, 1) := by decide +kernel
theorem dX8_init_5 : decode cX8_init 5 = .ok (.new 9, 3) := by decide +kernel
theorem dX8_init_8 : decode cX8_init 8 = .ok (.dup, 1) := by decide +kernel
theorem dX8_init_9 : decode cX8_init 9 = .ok (.bipush 12, 2) := by decide +kernel
theorem dX8_init_11 : decode cX8_init 11 = .ok (.invokespecial 11, 3) := by decide +kernel
theorem dX8_init_14 : decode cX8_init 14 = .ok (.putfield 14, 3) := by decide +kernel
theorem dX8_init_17 : decode cX8_init 17 = .ok (.aload_n 0, 1) := by decide +kernel
theorem dX8_init_18 : decode cX8_init 18 = .ok (.iconst 0, 1) := by decide +kernel
theorem dX8_init_19 : decode cX8_init 19 = .ok (.putfield 20, 3) := by decide +kernel
theorem dX8_init_22 : decode cX8_init 22 = .ok (.aload_n 0, 1) := by decide +kernel
theorem dX8_init_23 : decode cX8_init 23 = .ok (.iconst 0, 1) := by decide +kernel
theorem dX8_init_24 : decode cX8_init 24 = .ok (.putfield 24, 3) := by decide +kernel
theorem dX8_init_27 : decode cX8_init 27 = .ok (.return_, 1) := by decide +kernel
theorem dX8_copy_0 : decode cX8_copy 0 = .ok (.aload_n 0, 1) := by decide +kernel
theorem dX8_copy_1 : decode cX8_copy 1 = .ok (.getfield 14, 3) := by decide +kernel
theorem dX8_copy_4 : decode cX8_copy 4 = .ok (.aload_n 1, 1) := by decide +kernel
theorem dX8_copy_5 : decode cX8_copy 5 = .ok (.getfield 14, 3) := by decide +kernel
theorem dX8_copy_8 : decode cX8_copy 8 = .ok (.invokevirtual 27, 3) := by decide +kernel
theorem dX8_copy_11 : decode cX8_copy 11 = .ok (.aload_n 0, 1) := by decide +kernel
theorem dX8_copy_12 : decode cX8_copy 12 = .ok (.aload_n 1, 1) := by decide +kernel
theorem dX8_copy_13 : decode cX8_copy 13 = .ok (.getfield 20, 3) := by decide +kernel
theorem dX8_copy_16 : decode cX8_copy 16 = .ok (.putfield 20, 3) := by decide +kernel
theorem dX8_copy_19 : decode cX8_copy 19 = .ok (.aload_n 0, 1) := by decide +kernel
theorem dX8_copy_20 : decode cX8_copy 20 = .ok (.aload_n 1, 1) := by decide +kernel
theorem dX8_copy_21 : decode cX8_copy 21 = .ok (.getfield 24, 3) := by decide +kernel
theorem dX8_copy_24 : decode cX8_copy 24 = .ok (.putfield 24, 3) := by decide +kernel
theorem dX8_copy_27 : decode cX8_copy 27 = .ok (.return_, 1) := by decide +kernel
theorem dX8_goRound_0 : decode cX8_goRound 0 = .ok (.aload_n 0, 1) := by decide +kernel
theorem dX8_goRound_1 : decode cX8_goRound 1 = .ok (.getfield 14, 3) := by decide +kernel
theorem dX8_goRound_4 : decode cX8_goRound 4 = .ok (.getfield 31, 3) := by decide +kernel
theorem dX8_goRound_7 : decode cX8_goRound 7 = .ok (.iconst 1, 1) := by decide +kernel
theorem dX8_goRound_8 : decode cX8_goRound 8 = .ok (.if_icmp .ge 5, 3) := by decide +kernel
theorem dX8_goRound_11 : decode cX8_goRound 11 = .ok (.iconst (-1), 1) := by decide +kernel
theorem dX8_goRound_12 : decode cX8_goRound 12 = .ok (.ireturn, 1) := by decide +kernel
theorem dX9_init_0 : decode cX9_init 0 = .ok (.aload_n 0, 1) := by decide +kernel
theorem dX9_init_1 : decode cX9_init 1 = .ok (.invokespecial 3, 3) := by decide +kernel
theorem dX9_init_4 : decode cX9_init 4 = .ok (.aload_n 0, 1) := by decide +kernel
theorem dX9_init_5 : decode cX9_init 5 = .ok (.sipush 1600, 3) := by decide +kernel
theorem dX9_init_8 : decode cX9_init 8 = .ok (.newarray .byte, 2) := by decide +kernel
theorem dX9_init_10 : decode cX9_init 10 = .ok (.putfield 9, 3) := by decide +kernel
theorem dX9_init_13 : decode cX9_init 13 = .ok (.aload_n 0, 1) := by decide +kernel
theorem dX9_init_14 : decode cX9_init 14 = .ok (.bipush 15, 2) := by decide +kernel
theorem dX9_init_16 : decode cX9_init 16 = .ok (.newarray .long, 2) := by decide +kernel
theorem dX9_init_18 : decode cX9_init 18 = .ok (.putfield 15, 3) := by decide +kernel
theorem dX9_init_21 : decode cX9_init 21 = .ok (.iconst 0, 1) := by decide +kernel
theorem dX9_init_22 : decode cX9_init 22 = .ok (.istore_n 1, 1) := by decide +kernel
theorem dX9_init_23 : decode cX9_init 23 = .ok (.iconst 0, 1) := by decide +kernel
theorem dX9_init_24 : decode cX9_init 24 = .ok (.istore_n 2, 1) := by decide +kernel
theorem dX9_init_25 : decode cX9_init 25 = .ok (.iload_n 2, 1) := by decide +kernel
theorem dX9_init_26 : decode cX9_init 26 = .ok (.ldc 19, 2) := by decide +kernel
theorem dX9_init_28 : decode cX9_init 28 = .ok (.invokevirtual 21, 3) := by decide +kernel
theorem dX9_init_31 : decode cX9_init 31 = .ok (.if_icmp .ge 55, 3) := by decide +kernel
theorem dX9_init_34 : decode cX9_init 34 = .ok (.ldc 19, 2) := by decide +kernel
theorem dX9_init_36 : decode cX9_init 36 = .ok (.iload_n 2, 1) := by decide +kernel
theorem dX9_init_37 : decode cX9_init 37 = .ok (.invokevirtual 27, 3) := by decide +kernel
theorem dX9_init_40 : decode cX9_init 40 = .ok (.istore_n 3, 1) := by decide +kernel
theorem dX9_init_41 : decode cX9_init 41 = .ok (.iload_n 3, 1) := by decide +kernel
theorem dX9_init_42 : decode cX9_init 42 = .ok (.bipush 32, 2) := by decide +kernel
theorem dX9_init_44 : decode cX9_init 44 = .ok (.if_icmp .ne 9, 3) := by decide +kernel
theorem dX9_init_47 : decode cX9_init 47 = .ok (.iinc 1 1, 3) := by decide +kernel
theorem dX9_init_50 : decode cX9_init 50 = .ok (.goto 30, 3) := by decide +kernel
theorem dX9_init_53 : decode cX9_init 53 = .ok (.iload_n 1, 1) := by decide +kernel
theorem dX9_init_54 : decode cX9_init 54 = .ok (.aload_n 0, 1) := by decide +kernel
theorem dX9_init_55 : decode cX9_init 55 = .ok (.getfield 15, 3) := by decide +kernel
theorem dX9_init_58 : decode cX9_init 58 = .ok (.arraylength, 1) := by decide +kernel
theorem dX9_init_59 : decode cX9_init 59 = .ok (.if_icmp .ge 21, 3) := by decide +kernel
theorem dX9_init_62 : decode cX9_init 62 = .ok (.aload_n 0, 1) := by decide +kernel
theorem dX9_init_63 : decode cX9_init 63 = .ok (.getfield 15, 3) := by decide +kernel
theorem dX9_init_66 : decode cX9_init 66 = .ok (.iload_n 1, 1) := by decide +kernel
theorem dX9_init_67 : decode cX9_init 67 = .ok (.aload_n 0, 1) := by decide +kernel
theorem dX9_init_68 : decode cX9_init 68 = .ok (.getfield 15, 3) := by decide +kernel
theorem dX9_init_71 : decode cX9_init 71 = .ok (.iload_n 1, 1) := by decide +kernel
theorem dX9_init_72 : decode cX9_init 72 = .ok (.laload, 1) := by decide +kernel
theorem dX9_init_73 : decode cX9_init 73 = .ok (.bipush 8, 2) := by decide +kernel
theorem dX9_init_75 : decode cX9_init 75 = .ok (.lshl, 1) := by decide +kernel
theorem dX9_init_76 : decode cX9_init 76 = .ok (.iload_n 3, 1) := by decide +kernel
theorem dX9_init_77 : decode cX9_init 77 = .ok (.i2l, 1) := by decide +kernel
theorem dX9_init_78 : decode cX9_init 78 = .ok (.lor, 1) := by decide +kernel
theorem dX9_init_79 : decode cX9_init 79 = .ok (.lastore, 1) := by decide +kernel
theorem dX9_init_80 : decode cX9_init 80 = .ok (.iinc 2 1, 3) := by decide +kernel
theorem dX9_init_83 : decode cX9_init 83 = .ok (.goto (-58), 3) := by decide +kernel
theorem dX9_init_86 : decode cX9_init 86 = .ok (.return_, 1) := by decide +kernel
theorem dX9_hasRoom_0 : decode cX9_hasRoom 0 = .ok (.aload_n 0, 1) := by decide +kernel
theorem dX9_hasRoom_1 : decode cX9_hasRoom 1 = .ok (.getfield 31, 3) := by decide +kernel
theorem dX9_hasRoom_4 : decode cX9_hasRoom 4 = .ok (.iload_n 1, 1) := by decide +kernel
theorem dX9_hasRoom_5 : decode cX9_hasRoom 5 = .ok (.iadd, 1) := by decide +kernel
theorem dX9_hasRoom_6 : decode cX9_hasRoom 6 = .ok (.aload_n 0, 1) := by decide +kernel
theorem dX9_hasRoom_7 : decode cX9_hasRoom 7 = .ok (.getfield 9, 3) := by decide +kernel
theorem dX9_hasRoom_10 : decode cX9_hasRoom 10 = .ok (.arraylength, 1) := by decide +kernel
theorem dX9_hasRoom_11 : decode cX9_hasRoom 11 = .ok (.if_icmp .gt 7, 3) := by decide +kernel
theorem dX9_hasRoom_14 : decode cX9_hasRoom 14 = .ok (.iconst 1, 1) := by decide +kernel
theorem dX9_hasRoom_15 : decode cX9_hasRoom 15 = .ok (.goto 4, 3) := by decide +kernel
theorem dX9_hasRoom_19 : decode cX9_hasRoom 19 = .ok (.ireturn, 1) := by decide +kernel
theorem dX9_append_0 : decode cX9_append 0 = .ok (.bipush 24, 2) := by decide +kernel
theorem dX9_append_2 : decode cX9_append 2 = .ok (.istore_n 2, 1) := by decide +kernel
theorem dX9_append_3 : decode cX9_append 3 = .ok (.iload_n 2, 1) := by decide +kernel
theorem dX9_append_4 : decode cX9_append 4 = .ok (.ifCond .lt 51, 3) := by decide +kernel
theorem dX9_append_7 : decode cX9_append 7 = .ok (.aload_n 0, 1) := by decide +kernel
theorem dX9_append_8 : decode cX9_append 8 = .ok (.getfield 31, 3) := by decide +kernel
theorem dX9_append_11 : decode cX9_append 11 = .ok (.ifCond .lt 38, 3) := by decide +kernel
theorem dX9_append_14 : decode cX9_append 14 = .ok (.aload_n 0, 1) := by decide +kernel
theorem dX9_append_15 : decode cX9_append 15 = .ok (.getfield 31, 3) := by decide +kernel
theorem dX9_append_18 : decode cX9_append 18 = .ok (.aload_n 0, 1) := by decide +kernel
theorem dX9_append_19 : decode cX9_append 19 = .ok (.getfield 9, 3) := by decide +kernel
theorem dX9_append_22 : decode cX9_append 22 = .ok (.arraylength, 1) := by decide +kernel
theorem dX9_append_23 : decode cX9_append 23 = .ok (.if_icmp .ge 26, 3) := by decide +kernel
theorem dX9_append_26 : decode cX9_append 26 = .ok (.aload_n 0, 1) := by decide +kernel
theorem dX9_append_27 : decode cX9_append 27 = .ok (.getfield 9, 3) := by decide +kernel
theorem dX9_append_30 : decode cX9_append 30 = .ok (.aload_n 0, 1) := by decide +kernel
theorem dX9_append_31 : decode cX9_append 31 = .ok (.getfield 31, 3) := by decide +kernel
theorem dX9_append_34 : decode cX9_append 34 = .ok (.iload_n 1, 1) := by decide +kernel
theorem dX9_append_35 : decode cX9_append 35 = .ok (.iload_n 2, 1) := by decide +kernel
theorem dX9_append_36 : decode cX9_append 36 = .ok (.iushr, 1) := by decide +kernel
theorem dX9_append_37 : decode cX9_append 37 = .ok (.i2b, 1) := by decide +kernel
theorem dX9_append_38 : decode cX9_append 38 = .ok (.bastore, 1) := by decide +kernel
theorem dX9_append_39 : decode cX9_append 39 = .ok (.aload_n 0, 1) := by decide +kernel
theorem dX9_append_40 : decode cX9_append 40 = .ok (.dup, 1) := by decide +kernel
theorem dX9_append_41 : decode cX9_append 41 = .ok (.getfield 31, 3) := by decide +kernel
theorem dX9_append_44 : decode cX9_append 44 = .ok (.iconst 1, 1) := by decide +kernel
theorem dX9_append_45 : decode cX9_append 45 = .ok (.iadd, 1) := by decide +kernel
theorem dX9_append_46 : decode cX9_append 46 = .ok (.putfield 31, 3) := by decide +kernel
theorem dX9_append_49 : decode cX9_append 49 = .ok (.iinc 2 (-8), 3) := by decide +kernel
theorem dX9_append_52 : decode cX9_append 52 = .ok (.goto (-49), 3) := by decide +kernel
theorem dX9_append_55 : decode cX9_append 55 = .ok (.return_, 1) := by decide +kernel
theorem dX9_rewind_0 : decode cX9_rewind 0 = .ok (.aload_n 0, 1) := by decide +kernel
theorem dX9_rewind_1 : decode cX9_rewind 1 = .ok (.iconst 0, 1) := by decide +kernel
theorem dX9_rewind_2 : decode cX9_rewind 2 = .ok (.putfield 34, 3) := by decide +kernel
theorem dX9_rewind_5 : decode cX9_rewind 5 = .ok (.aload_n 0, 1) := by decide +kernel
theorem dX9_rewind_6 : decode cX9_rewind 6 = .ok (.invokevirtual 37, 3) := by decide +kernel
theorem dX9_rewind_9 : decode cX9_rewind 9 = .ok (.return_, 1) := by decide +kernel
theorem dX9_advance_0 : decode cX9_advance 0 = .ok (.aload_n 0, 1) := by decide +kernel
theorem dX9_advance_1 : decode cX9_advance 1 = .ok (.invokevirtual 40, 3) := by decide +kernel
theorem dX9_advance_4 : decode cX9_advance 4 = .ok (.aload_n 0, 1) := by decide +kernel
theorem dX9_advance_5 : decode cX9_advance 5 = .ok (.aload_n 0, 1) := by decide +kernel
theorem dX9_advance_6 : decode cX9_advance 6 = .ok (.getfield 34, 3) := by decide +kernel
theorem dX9_advance_9 : decode cX9_advance 9 = .ok (.putfield 43, 3) := by decide +kernel
theorem dX9_advance_12 : decode cX9_advance 12 = .ok (.aload_n 0, 1) := by decide +kernel
theorem dX9_advance_13 : decode cX9_advance 13 = .ok (.aload_n 0, 1) := by decide +kernel
theorem dX9_advance_14 : decode cX9_advance 14 = .ok (.getfield 34, 3) := by decide +kernel
theorem dX9_advance_17 : decode cX9_advance 17 = .ok (.invokevirtual 46, 3) := by decide +kernel
theorem dX9_advance_20 : decode cX9_advance 20 = .ok (.istore_n 1, 1) := by decide +kernel
theorem dX9_advance_21 : decode cX9_advance 21 = .ok (.iload_n 1, 1) := by decide +kernel
theorem dX9_advance_22 : decode cX9_advance 22 = .ok (.invokestatic 50, 3) := by decide +kernel
theorem dX9_advance_25 : decode cX9_advance 25 = .ok (.ifCond .eq 10, 3) := by decide +kernel
theorem dX9_advance_35 : decode cX9_advance 35 = .ok (.iload_n 1, 1) := by decide +kernel
theorem dX9_advance_36 : decode cX9_advance 36 = .ok (.invokestatic 57, 3) := by decide +kernel
theorem dX9_advance_39 : decode cX9_advance 39 = .ok (.ifCond .eq 10, 3) := by decide +kernel
theorem dX9_advance_49 : decode cX9_advance 49 = .ok (.iload_n 1, 1) := by decide +kernel
theorem dX9_advance_50 : decode cX9_advance 50 = .ok (.iconst (-1), 1) := by decide +kernel
theorem dX9_advance_51 : decode cX9_advance 51 = .ok (.if_icmp .ne 11, 3) := by decide +kernel
theorem dX9_advance_54 : decode cX9_advance 54 = .ok (.aload_n 0, 1) := by decide +kernel
theorem dX9_advance_55 : decode cX9_advance 55 = .ok (.iconst (-1), 1) := by decide +kernel
theorem dX9_advance_56 : decode cX9_advance 56 = .ok (.putfield 63, 3) := by decide +kernel
theorem dX9_advance_59 : decode cX9_advance 59 = .ok (.goto 32, 3) := by decide +kernel
theorem dX9_advance_91 : decode cX9_advance 91 = .ok (.return_, 1) := by decide +kernel
theorem dX9_skipBlanks_0 : decode cX9_skipBlanks 0 = .ok (.aload_n 0, 1) := by decide +kernel
theorem dX9_skipBlanks_1 : decode cX9_skipBlanks 1 = .ok (.getfield 34, 3) := by decide +kernel
theorem dX9_skipBlanks_4 : decode cX9_skipBlanks 4 = .ok (.aload_n 0, 1) := by decide +kernel
theorem dX9_skipBlanks_5 : decode cX9_skipBlanks 5 = .ok (.getfield 31, 3) := by decide +kernel
theorem dX9_skipBlanks_8 : decode cX9_skipBlanks 8 = .ok (.if_icmp .ge 30, 3) := by decide +kernel
theorem dX9_skipBlanks_38 : decode cX9_skipBlanks 38 = .ok (.return_, 1) := by decide +kernel
theorem dX9_signAt_0 : decode cX9_signAt 0 = .ok (.iload_n 1, 1) := by decide +kernel
theorem dX9_signAt_1 : decode cX9_signAt 1 = .ok (.ifCond .lt 33, 3) := by decide +kernel
theorem dX9_signAt_4 : decode cX9_signAt 4 = .ok (.iload_n 1, 1) := by decide +kernel
theorem dX9_signAt_5 : decode cX9_signAt 5 = .ok (.aload_n 0, 1) := by decide +kernel
theorem dX9_signAt_6 : decode cX9_signAt 6 = .ok (.getfield 31, 3) := by decide +kernel
theorem dX9_signAt_9 : decode cX9_signAt 9 = .ok (.if_icmp .ge 25, 3) := by decide +kernel
theorem dX9_signAt_34 : decode cX9_signAt 34 = .ok (.iconst (-1), 1) := by decide +kernel
theorem dX9_signAt_35 : decode cX9_signAt 35 = .ok (.ireturn, 1) := by decide +kernel
theorem dX9_isLetter_0 : decode cX9_isLetter 0 = .ok (.iload_n 0, 1) := by decide +kernel
theorem dX9_isLetter_1 : decode cX9_isLetter 1 = .ok (.bipush 97, 2) := by decide +kernel
theorem dX9_isLetter_3 : decode cX9_isLetter 3 = .ok (.if_icmp .lt 13, 3) := by decide +kernel
theorem dX9_isLetter_16 : decode cX9_isLetter 16 = .ok (.iconst 0, 1) := by decide +kernel
theorem dX9_isLetter_17 : decode cX9_isLetter 17 = .ok (.ireturn, 1) := by decide +kernel
theorem dX9_isDigit_0 : decode cX9_isDigit 0 = .ok (.iload_n 0, 1) := by decide +kernel
theorem dX9_isDigit_1 : decode cX9_isDigit 1 = .ok (.bipush 48, 2) := by decide +kernel
theorem dX9_isDigit_3 : decode cX9_isDigit 3 = .ok (.if_icmp .lt 13, 3) := by decide +kernel
theorem dX9_isDigit_16 : decode cX9_isDigit 16 = .ok (.iconst 0, 1) := by decide +kernel
theorem dX9_isDigit_17 : decode cX9_isDigit 17 = .ok (.ireturn, 1) := by decide +kernel
theorem dX10_init_0 : decode cX10_init 0 = .ok (.aload_n 0, 1) := by decide +kernel
theorem dX10_init_1 : decode cX10_init 1 = .ok (.invokespecial 3, 3) := by decide +kernel
theorem dX10_init_4 : decode cX10_init 4 = .ok (.aload_n 0, 1) := by decide +kernel
theorem dX10_init_5 : decode cX10_init 5 = .ok (.bipush 9, 2) := by decide +kernel
theorem dX10_init_7 : decode cX10_init 7 = .ok (.newarray .long, 2) := by decide +kernel
theorem dX10_init_9 : decode cX10_init 9 = .ok (.putfield 9, 3) := by decide +kernel
theorem dX10_init_12 : decode cX10_init 12 = .ok (.aload_n 0, 1) := by decide +kernel
theorem dX10_init_13 : decode cX10_init 13 = .ok (.bipush 9, 2) := by decide +kernel
theorem dX10_init_15 : decode cX10_init 15 = .ok (.newarray .int, 2) := by decide +kernel
theorem dX10_init_17 : decode cX10_init 17 = .ok (.putfield 15, 3) := by decide +kernel
theorem dX10_init_20 : decode cX10_init 20 = .ok (.aload_n 0, 1) := by decide +kernel
theorem dX10_init_21 : decode cX10_init 21 = .ok (.bipush 81, 2) := by decide +kernel
theorem dX10_init_23 : decode cX10_init 23 = .ok (.newarray .int, 2) := by decide +kernel
theorem dX10_init_25 : decode cX10_init 25 = .ok (.putfield 19, 3) := by decide +kernel
theorem dX10_init_28 : decode cX10_init 28 = .ok (.aload_n 0, 1) := by decide +kernel
theorem dX10_init_29 : decode cX10_init 29 = .ok (.bipush 81, 2) := by decide +kernel
theorem dX10_init_31 : decode cX10_init 31 = .ok (.newarray .boolean, 2) := by decide +kernel
theorem dX10_init_33 : decode cX10_init 33 = .ok (.putfield 22, 3) := by decide +kernel
theorem dX10_init_36 : decode cX10_init 36 = .ok (.aload_n 0, 1) := by decide +kernel
theorem dX10_init_37 : decode cX10_init 37 = .ok (.new 26, 3) := by decide +kernel
theorem dX10_init_40 : decode cX10_init 40 = .ok (.dup, 1) := by decide +kernel
theorem dX10_init_41 : decode cX10_init 41 = .ok (.bipush 12, 2) := by decide +kernel
theorem dX10_init_43 : decode cX10_init 43 = .ok (.invokespecial 28, 3) := by decide +kernel
theorem dX10_init_46 : decode cX10_init 46 = .ok (.putfield 31, 3) := by decide +kernel
theorem dX10_init_49 : decode cX10_init 49 = .ok (.aload_n 0, 1) := by decide +kernel
theorem dX10_init_50 : decode cX10_init 50 = .ok (.iconst 5, 1) := by decide +kernel
theorem dX10_init_51 : decode cX10_init 51 = .ok (.anewarray 26, 3) := by decide +kernel
theorem dX10_init_54 : decode cX10_init 54 = .ok (.putfield 35, 3) := by decide +kernel
theorem dX10_init_57 : decode cX10_init 57 = .ok (.iconst 0, 1) := by decide +kernel
theorem dX10_init_58 : decode cX10_init 58 = .ok (.istore_n 1, 1) := by decide +kernel
theorem dX10_init_59 : decode cX10_init 59 = .ok (.iload_n 1, 1) := by decide +kernel
theorem dX10_init_60 : decode cX10_init 60 = .ok (.aload_n 0, 1) := by decide +kernel
theorem dX10_init_61 : decode cX10_init 61 = .ok (.getfield 35, 3) := by decide +kernel
theorem dX10_init_64 : decode cX10_init 64 = .ok (.arraylength, 1) := by decide +kernel
theorem dX10_init_65 : decode cX10_init 65 = .ok (.if_icmp .ge 24, 3) := by decide +kernel
theorem dX10_init_68 : decode cX10_init 68 = .ok (.aload_n 0, 1) := by decide +kernel
theorem dX10_init_69 : decode cX10_init 69 = .ok (.getfield 35, 3) := by decide +kernel
theorem dX10_init_72 : decode cX10_init 72 = .ok (.iload_n 1, 1) := by decide +kernel
theorem dX10_init_73 : decode cX10_init 73 = .ok (.new 26, 3) := by decide +kernel
theorem dX10_init_76 : decode cX10_init 76 = .ok (.dup, 1) := by decide +kernel
theorem dX10_init_77 : decode cX10_init 77 = .ok (.bipush 8, 2) := by decide +kernel
theorem dX10_init_79 : decode cX10_init 79 = .ok (.invokespecial 28, 3) := by decide +kernel
theorem dX10_init_82 : decode cX10_init 82 = .ok (.aastore, 1) := by decide +kernel
theorem dX10_init_83 : decode cX10_init 83 = .ok (.iinc 1 1, 3) := by decide +kernel
theorem dX10_init_86 : decode cX10_init 86 = .ok (.goto (-27), 3) := by decide +kernel
theorem dX10_init_89 : decode cX10_init 89 = .ok (.aload_n 0, 1) := by decide +kernel
theorem dX10_init_90 : decode cX10_init 90 = .ok (.new 39, 3) := by decide +kernel
theorem dX10_init_93 : decode cX10_init 93 = .ok (.dup, 1) := by decide +kernel
theorem dX10_init_94 : decode cX10_init 94 = .ok (.invokespecial 41, 3) := by decide +kernel
theorem dX10_init_97 : decode cX10_init 97 = .ok (.putfield 42, 3) := by decide +kernel
theorem dX10_init_100 : decode cX10_init 100 = .ok (.return_, 1) := by decide +kernel
theorem dX10_clear_0 : decode cX10_clear 0 = .ok (.aload_n 0, 1) := by decide +kernel
theorem dX10_clear_1 : decode cX10_clear 1 = .ok (.iconst 0, 1) := by decide +kernel
theorem dX10_clear_2 : decode cX10_clear 2 = .ok (.putfield 46, 3) := by decide +kernel
theorem dX10_clear_5 : decode cX10_clear 5 = .ok (.aload_n 0, 1) := by decide +kernel
theorem dX10_clear_6 : decode cX10_clear 6 = .ok (.iconst 0, 1) := by decide +kernel
theorem dX10_clear_7 : decode cX10_clear 7 = .ok (.putfield 50, 3) := by decide +kernel
theorem dX10_clear_10 : decode cX10_clear 10 = .ok (.aload_n 0, 1) := by decide +kernel
theorem dX10_clear_11 : decode cX10_clear 11 = .ok (.iconst 0, 1) := by decide +kernel
theorem dX10_clear_12 : decode cX10_clear 12 = .ok (.putfield 53, 3) := by decide +kernel
theorem dX10_clear_15 : decode cX10_clear 15 = .ok (.aload_n 0, 1) := by decide +kernel
theorem dX10_clear_16 : decode cX10_clear 16 = .ok (.iconst 0, 1) := by decide +kernel
theorem dX10_clear_17 : decode cX10_clear 17 = .ok (.putfield 56, 3) := by decide +kernel
theorem dX10_clear_20 : decode cX10_clear 20 = .ok (.aload_n 0, 1) := by decide +kernel
theorem dX10_clear_21 : decode cX10_clear 21 = .ok (.iconst 0, 1) := by decide +kernel
theorem dX10_clear_22 : decode cX10_clear 22 = .ok (.putfield 59, 3) := by decide +kernel
theorem dX10_clear_25 : decode cX10_clear 25 = .ok (.aload_n 0, 1) := by decide +kernel
theorem dX10_clear_26 : decode cX10_clear 26 = .ok (.getfield 31, 3) := by decide +kernel
theorem dX10_clear_29 : decode cX10_clear 29 = .ok (.invokevirtual 63, 3) := by decide +kernel
theorem dX10_clear_32 : decode cX10_clear 32 = .ok (.aload_n 0, 1) := by decide +kernel
theorem dX10_clear_33 : decode cX10_clear 33 = .ok (.getfield 42, 3) := by decide +kernel
theorem dX10_clear_36 : decode cX10_clear 36 = .ok (.invokevirtual 66, 3) := by decide +kernel
theorem dX10_clear_39 : decode cX10_clear 39 = .ok (.aload_n 0, 1) := by decide +kernel
theorem dX10_clear_40 : decode cX10_clear 40 = .ok (.getfield 19, 3) := by decide +kernel
theorem dX10_clear_43 : decode cX10_clear 43 = .ok (.iconst 0, 1) := by decide +kernel
theorem dX10_clear_44 : decode cX10_clear 44 = .ok (.invokestatic 67, 3) := by decide +kernel
theorem dX10_clear_47 : decode cX10_clear 47 = .ok (.iconst 0, 1) := by decide +kernel
theorem dX10_clear_48 : decode cX10_clear 48 = .ok (.istore_n 1, 1) := by decide +kernel
theorem dX10_clear_49 : decode cX10_clear 49 = .ok (.iload_n 1, 1) := by decide +kernel
theorem dX10_clear_50 : decode cX10_clear 50 = .ok (.aload_n 0, 1) := by decide +kernel
theorem dX10_clear_51 : decode cX10_clear 51 = .ok (.getfield 22, 3) := by decide +kernel
theorem dX10_clear_54 : decode cX10_clear 54 = .ok (.arraylength, 1) := by decide +kernel
theorem dX10_clear_55 : decode cX10_clear 55 = .ok (.if_icmp .ge 16, 3) := by decide +kernel
theorem dX10_clear_58 : decode cX10_clear 58 = .ok (.aload_n 0, 1) := by decide +kernel
theorem dX10_clear_59 : decode cX10_clear 59 = .ok (.getfield 22, 3) := by decide +kernel
theorem dX10_clear_62 : decode cX10_clear 62 = .ok (.iload_n 1, 1) := by decide +kernel
theorem dX10_clear_63 : decode cX10_clear 63 = .ok (.iconst 0, 1) := by decide +kernel
theorem dX10_clear_64 : decode cX10_clear 64 = .ok (.bastore, 1) := by decide +kernel
theorem dX10_clear_65 : decode cX10_clear 65 = .ok (.iinc 1 1, 3) := by decide +kernel
theorem dX10_clear_68 : decode cX10_clear 68 = .ok (.goto (-19), 3) := by decide +kernel
theorem dX10_clear_71 : decode cX10_clear 71 = .ok (.return_, 1) := by decide +kernel
theorem dX10_hasWord_0 : decode cX10_hasWord 0 = .ok (.iload_n 1, 1) := by decide +kernel
theorem dX10_hasWord_1 : decode cX10_hasWord 1 = .ok (.ifCond .lt 21, 3) := by decide +kernel
theorem dX10_hasWord_4 : decode cX10_hasWord 4 = .ok (.iload_n 1, 1) := by decide +kernel
theorem dX10_hasWord_5 : decode cX10_hasWord 5 = .ok (.aload_n 0, 1) := by decide +kernel
theorem dX10_hasWord_6 : decode cX10_hasWord 6 = .ok (.getfield 46, 3) := by decide +kernel
theorem dX10_hasWord_9 : decode cX10_hasWord 9 = .ok (.if_icmp .ge 13, 3) := by decide +kernel
theorem dX10_hasWord_22 : decode cX10_hasWord 22 = .ok (.iconst 0, 1) := by decide +kernel
theorem dX10_hasWord_23 : decode cX10_hasWord 23 = .ok (.ireturn, 1) := by decide +kernel
theorem dX10_slipAt_0 : decode cX10_slipAt 0 = .ok (.iload_n 1, 1) := by decide +kernel
theorem dX10_slipAt_1 : decode cX10_slipAt 1 = .ok (.ifCond .lt 29, 3) := by decide +kernel
theorem dX10_slipAt_4 : decode cX10_slipAt 4 = .ok (.iload_n 1, 1) := by decide +kernel
theorem dX10_slipAt_5 : decode cX10_slipAt 5 = .ok (.aload_n 0, 1) := by decide +kernel
theorem dX10_slipAt_6 : decode cX10_slipAt 6 = .ok (.getfield 53, 3) := by decide +kernel
theorem dX10_slipAt_9 : decode cX10_slipAt 9 = .ok (.if_icmp .ge 21, 3) := by decide +kernel
theorem dX10_slipAt_30 : decode cX10_slipAt 30 = .ok (.aconst_null, 1) := by decide +kernel
theorem dX10_slipAt_31 : decode cX10_slipAt 31 = .ok (.areturn, 1) := by decide +kernel
theorem dX10_senseOf_0 : decode cX10_senseOf 0 = .ok (.iconst 0, 1) := by decide +kernel
theorem dX10_senseOf_1 : decode cX10_senseOf 1 = .ok (.istore_n 2, 1) := by decide +kernel
theorem dX10_senseOf_2 : decode cX10_senseOf 2 = .ok (.iconst 1, 1) := by decide +kernel
theorem dX10_senseOf_3 : decode cX10_senseOf 3 = .ok (.istore_n 3, 1) := by decide +kernel
theorem dX10_senseOf_4 : decode cX10_senseOf 4 = .ok (.iload_n 3, 1) := by decide +kernel
theorem dX10_senseOf_5 : decode cX10_senseOf 5 = .ok (.aload_n 1, 1) := by decide +kernel
theorem dX10_senseOf_6 : decode cX10_senseOf 6 = .ok (.getfield 77, 3) := by decide +kernel
theorem dX10_senseOf_9 : decode cX10_senseOf 9 = .ok (.if_icmp .ge 28, 3) := by decide +kernel
theorem dX10_senseOf_37 : decode cX10_senseOf 37 = .ok (.iload_n 2, 1) := by decide +kernel
theorem dX10_senseOf_38 : decode cX10_senseOf 38 = .ok (.ireturn, 1) := by decide +kernel
theorem dX10_markOf_0 : decode cX10_markOf 0 = .ok (.iconst 0, 1) := by decide +kernel
theorem dX10_markOf_1 : decode cX10_markOf 1 = .ok (.istore_n 2, 1) := by decide +kernel
theorem dX10_markOf_2 : decode cX10_markOf 2 = .ok (.iconst 0, 1) := by decide +kernel
theorem dX10_markOf_3 : decode cX10_markOf 3 = .ok (.istore_n 3, 1) := by decide +kernel
theorem dX10_markOf_4 : decode cX10_markOf 4 = .ok (.iload_n 3, 1) := by decide +kernel
theorem dX10_markOf_5 : decode cX10_markOf 5 = .ok (.aload_n 1, 1) := by decide +kernel
theorem dX10_markOf_6 : decode cX10_markOf 6 = .ok (.getfield 77, 3) := by decide +kernel
theorem dX10_markOf_9 : decode cX10_markOf 9 = .ok (.if_icmp .ge 25, 3) := by decide +kernel
theorem dX10_markOf_34 : decode cX10_markOf 34 = .ok (.iload_n 2, 1) := by decide +kernel
theorem dX10_markOf_35 : decode cX10_markOf 35 = .ok (.bipush 100, 2) := by decide +kernel
theorem dX10_markOf_37 : decode cX10_markOf 37 = .ok (.irem, 1) := by decide +kernel
theorem dX10_markOf_38 : decode cX10_markOf 38 = .ok (.ireturn, 1) := by decide +kernel
theorem dX10_placeMissed_0 : decode cX10_placeMissed 0 = .ok (.iconst (-1), 1) := by decide +kernel
theorem dX10_placeMissed_1 : decode cX10_placeMissed 1 = .ok (.istore_n 3, 1) := by decide +kernel
theorem dX10_placeMissed_2 : decode cX10_placeMissed 2 = .ok (.iconst 0, 1) := by decide +kernel
theorem dX10_placeMissed_3 : decode cX10_placeMissed 3 = .ok (.istore 4, 2) := by decide +kernel
theorem dX10_placeMissed_5 : decode cX10_placeMissed 5 = .ok (.iconst 0, 1) := by decide +kernel
theorem dX10_placeMissed_6 : decode cX10_placeMissed 6 = .ok (.istore 5, 2) := by decide +kernel
theorem dX10_placeMissed_8 : decode cX10_placeMissed 8 = .ok (.iload 5, 2) := by decide +kernel
theorem dX10_placeMissed_10 : decode cX10_placeMissed 10 = .ok (.aload_n 1, 1) := by decide +kernel
theorem dX10_placeMissed_11 : decode cX10_placeMissed 11 = .ok (.getfield 77, 3) := by decide +kernel
theorem dX10_placeMissed_14 : decode cX10_placeMissed 14 = .ok (.if_icmp .ge 51, 3) := by decide +kernel
theorem dX10_placeMissed_65 : decode cX10_placeMissed 65 = .ok (.iload_n 3, 1) := by decide +kernel
theorem dX10_placeMissed_66 : decode cX10_placeMissed 66 = .ok (.ireturn, 1) := by decide +kernel
theorem dX11_init_0 : decode cX11_init 0 = .ok (.aload_n 0, 1) := by decide +kernel
theorem dX11_init_1 : decode cX11_init 1 = .ok (.invokespecial 1, 3) := by decide +kernel
theorem dX11_init_4 : decode cX11_init 4 = .ok (.aload_n 0, 1) := by decide +kernel
theorem dX11_init_5 : decode cX11_init 5 = .ok (.new 7, 3) := by decide +kernel
theorem dX11_init_8 : decode cX11_init 8 = .ok (.dup, 1) := by decide +kernel
theorem dX11_init_9 : decode cX11_init 9 = .ok (.invokespecial 9, 3) := by decide +kernel
theorem dX11_init_12 : decode cX11_init 12 = .ok (.putfield 10, 3) := by decide +kernel
theorem dX11_init_15 : decode cX11_init 15 = .ok (.aload_n 0, 1) := by decide +kernel
theorem dX11_init_16 : decode cX11_init 16 = .ok (.new 16, 3) := by decide +kernel
theorem dX11_init_19 : decode cX11_init 19 = .ok (.dup, 1) := by decide +kernel
theorem dX11_init_20 : decode cX11_init 20 = .ok (.invokespecial 18, 3) := by decide +kernel
theorem dX11_init_23 : decode cX11_init 23 = .ok (.putfield 19, 3) := by decide +kernel
theorem dX11_init_26 : decode cX11_init 26 = .ok (.aload_n 0, 1) := by decide +kernel
theorem dX11_init_27 : decode cX11_init 27 = .ok (.new 23, 3) := by decide +kernel
theorem dX11_init_30 : decode cX11_init 30 = .ok (.dup, 1) := by decide +kernel
theorem dX11_init_31 : decode cX11_init 31 = .ok (.invokespecial 25, 3) := by decide +kernel
theorem dX11_init_34 : decode cX11_init 34 = .ok (.putfield 26, 3) := by decide +kernel
theorem dX11_init_37 : decode cX11_init 37 = .ok (.aload_n 0, 1) := by decide +kernel
theorem dX11_init_38 : decode cX11_init 38 = .ok (.new 30, 3) := by decide +kernel
theorem dX11_init_41 : decode cX11_init 41 = .ok (.dup, 1) := by decide +kernel
theorem dX11_init_42 : decode cX11_init 42 = .ok (.invokespecial 32, 3) := by decide +kernel
theorem dX11_init_45 : decode cX11_init 45 = .ok (.putfield 33, 3) := by decide +kernel
theorem dX11_init_48 : decode cX11_init 48 = .ok (.aload_n 0, 1) := by decide +kernel
theorem dX11_init_49 : decode cX11_init 49 = .ok (.new 37, 3) := by decide +kernel
theorem dX11_init_52 : decode cX11_init 52 = .ok (.dup, 1) := by decide +kernel
theorem dX11_init_53 : decode cX11_init 53 = .ok (.invokespecial 39, 3) := by decide +kernel
theorem dX11_init_56 : decode cX11_init 56 = .ok (.putfield 40, 3) := by decide +kernel
theorem dX11_init_59 : decode cX11_init 59 = .ok (.aload_n 0, 1) := by decide +kernel
theorem dX11_init_60 : decode cX11_init 60 = .ok (.new 44, 3) := by decide +kernel
theorem dX11_init_63 : decode cX11_init 63 = .ok (.dup, 1) := by decide +kernel
theorem dX11_init_64 : decode cX11_init 64 = .ok (.invokespecial 46, 3) := by decide +kernel
theorem dX11_init_67 : decode cX11_init 67 = .ok (.putfield 47, 3) := by decide +kernel
theorem dX11_init_70 : decode cX11_init 70 = .ok (.aload_n 0, 1) := by decide +kernel
theorem dX11_init_71 : decode cX11_init 71 = .ok (.new 51, 3) := by decide +kernel
theorem dX11_init_74 : decode cX11_init 74 = .ok (.dup, 1) := by decide +kernel
theorem dX11_init_75 : decode cX11_init 75 = .ok (.bipush 24, 2) := by decide +kernel
theorem dX11_init_77 : decode cX11_init 77 = .ok (.invokespecial 53, 3) := by decide +kernel
theorem dX11_init_80 : decode cX11_init 80 = .ok (.putfield 56, 3) := by decide +kernel
theorem dX11_init_83 : decode cX11_init 83 = .ok (.aload_n 0, 1) := by decide +kernel
theorem dX11_init_84 : decode cX11_init 84 = .ok (.new 51, 3) := by decide +kernel
theorem dX11_init_87 : decode cX11_init 87 = .ok (.dup, 1) := by decide +kernel
theorem dX11_init_88 : decode cX11_init 88 = .ok (.iconst 0, 1) := by decide +kernel
theorem dX11_init_89 : decode cX11_init 89 = .ok (.invokespecial 53, 3) := by decide +kernel
theorem dX11_init_92 : decode cX11_init 92 = .ok (.putfield 60, 3) := by decide +kernel
theorem dX11_init_95 : decode cX11_init 95 = .ok (.aload_n 0, 1) := by decide +kernel
theorem dX11_init_96 : decode cX11_init 96 = .ok (.new 63, 3) := by decide +kernel
theorem dX11_init_99 : decode cX11_init 99 = .ok (.dup, 1) := by decide +kernel
theorem dX11_init_100 : decode cX11_init 100 = .ok (.invokespecial 65, 3) := by decide +kernel
theorem dX11_init_103 : decode cX11_init 103 = .ok (.putfield 66, 3) := by decide +kernel
theorem dX11_init_106 : decode cX11_init 106 = .ok (.return_, 1) := by decide +kernel
theorem dX11_feed_0 : decode cX11_feed 0 = .ok (.aload_n 0, 1) := by decide +kernel
theorem dX11_feed_1 : decode cX11_feed 1 = .ok (.getfield 10, 3) := by decide +kernel
theorem dX11_feed_4 : decode cX11_feed 4 = .ok (.getfield 70, 3) := by decide +kernel
theorem dX11_feed_7 : decode cX11_feed 7 = .ok (.astore 6, 2) := by decide +kernel
theorem dX11_feed_9 : decode cX11_feed 9 = .ok (.aload 6, 2) := by decide +kernel
theorem dX11_feed_11 : decode cX11_feed 11 = .ok (.bipush 20, 2) := by decide +kernel
theorem dX11_feed_13 : decode cX11_feed 13 = .ok (.invokevirtual 74, 3) := by decide +kernel
theorem dX11_feed_16 : decode cX11_feed 16 = .ok (.ifCond .ne 5, 3) := by decide +kernel
theorem dX11_feed_21 : decode cX11_feed 21 = .ok (.aload 6, 2) := by decide +kernel
theorem dX11_feed_23 : decode cX11_feed 23 = .ok (.iload_n 1, 1) := by decide +kernel
theorem dX11_feed_24 : decode cX11_feed 24 = .ok (.invokevirtual 80, 3) := by decide +kernel
theorem dX11_feed_27 : decode cX11_feed 27 = .ok (.aload 6, 2) := by decide +kernel
theorem dX11_feed_29 : decode cX11_feed 29 = .ok (.iload_n 2, 1) := by decide +kernel
theorem dX11_feed_30 : decode cX11_feed 30 = .ok (.invokevirtual 80, 3) := by decide +kernel
theorem dX11_feed_33 : decode cX11_feed 33 = .ok (.aload 6, 2) := by decide +kernel
theorem dX11_feed_35 : decode cX11_feed 35 = .ok (.iload_n 3, 1) := by decide +kernel
theorem dX11_feed_36 : decode cX11_feed 36 = .ok (.invokevirtual 80, 3) := by decide +kernel
theorem dX11_feed_39 : decode cX11_feed 39 = .ok (.aload 6, 2) := by decide +kernel
theorem dX11_feed_41 : decode cX11_feed 41 = .ok (.iload 4, 2) := by decide +kernel
theorem dX11_feed_43 : decode cX11_feed 43 = .ok (.invokevirtual 80, 3) := by decide +kernel
theorem dX11_feed_46 : decode cX11_feed 46 = .ok (.aload 6, 2) := by decide +kernel
theorem dX11_feed_48 : decode cX11_feed 48 = .ok (.iload 5, 2) := by decide +kernel
theorem dX11_feed_50 : decode cX11_feed 50 = .ok (.invokevirtual 80, 3) := by decide +kernel
theorem dX11_feed_53 : decode cX11_feed 53 = .ok (.aload 6, 2) := by decide +kernel
theorem dX11_feed_55 : decode cX11_feed 55 = .ok (.getfield 83, 3) := by decide +kernel
theorem dX11_feed_58 : decode cX11_feed 58 = .ok (.ireturn, 1) := by decide +kernel
theorem dX11_end_0 : decode cX11_end 0 = .ok (.iload_n 1, 1) := by decide +kernel
theorem dX11_end_1 : decode cX11_end 1 = .ok (.ifCond .lt 17, 3) := by decide +kernel
theorem dX11_end_4 : decode cX11_end 4 = .ok (.iload_n 1, 1) := by decide +kernel
theorem dX11_end_5 : decode cX11_end 5 = .ok (.aload_n 0, 1) := by decide +kernel
theorem dX11_end_6 : decode cX11_end 6 = .ok (.getfield 10, 3) := by decide +kernel
theorem dX11_end_9 : decode cX11_end 9 = .ok (.getfield 70, 3) := by decide +kernel
theorem dX11_end_12 : decode cX11_end 12 = .ok (.getfield 83, 3) := by decide +kernel
theorem dX11_end_15 : decode cX11_end 15 = .ok (.if_icmp .le 5, 3) := by decide +kernel
theorem dX11_end_18 : decode cX11_end 18 = .ok (.iconst (-1), 1) := by decide +kernel
theorem dX11_end_19 : decode cX11_end 19 = .ok (.ireturn, 1) := by decide +kernel
theorem dX11_end_20 : decode cX11_end 20 = .ok (.aload_n 0, 1) := by decide +kernel
theorem dX11_end_21 : decode cX11_end 21 = .ok (.getfield 10, 3) := by decide +kernel
theorem dX11_end_24 : decode cX11_end 24 = .ok (.getfield 70, 3) := by decide +kernel
theorem dX11_end_27 : decode cX11_end 27 = .ok (.iload_n 1, 1) := by decide +kernel
theorem dX11_end_28 : decode cX11_end 28 = .ok (.putfield 83, 3) := by decide +kernel
theorem dX11_end_31 : decode cX11_end 31 = .ok (.iload_n 1, 1) := by decide +kernel
theorem dX11_end_32 : decode cX11_end 32 = .ok (.ireturn, 1) := by decide +kernel
theorem dX11_table_0 : decode cX11_table 0 = .ok (.aload_n 0, 1) := by decide +kernel
theorem dX11_table_1 : decode cX11_table 1 = .ok (.getfield 10, 3) := by decide +kernel
theorem dX11_table_4 : decode cX11_table 4 = .ok (.invokevirtual 87, 3) := by decide +kernel
theorem dX11_table_7 : decode cX11_table 7 = .ok (.ifCond .ne 5, 3) := by decide +kernel
theorem dX11_table_12 : decode cX11_table 12 = .ok (.aload_n 0, 1) := by decide +kernel
theorem dX11_table_13 : decode cX11_table 13 = .ok (.aload_n 0, 1) := by decide +kernel
theorem dX11_table_14 : decode cX11_table 14 = .ok (.getfield 10, 3) := by decide +kernel
theorem dX11_table_17 : decode cX11_table 17 = .ok (.aload_n 0, 1) := by decide +kernel
theorem dX11_table_18 : decode cX11_table 18 = .ok (.getfield 66, 3) := by decide +kernel
theorem dX11_table_21 : decode cX11_table 21 = .ok (.invokevirtual 91, 3) := by decide +kernel
theorem dX11_table_24 : decode cX11_table 24 = .ok (.putfield 66, 3) := by decide +kernel
theorem dX11_table_27 : decode cX11_table 27 = .ok (.aload_n 0, 1) := by decide +kernel
theorem dX11_table_28 : decode cX11_table 28 = .ok (.getfield 10, 3) := by decide +kernel
theorem dX11_table_31 : decode cX11_table 31 = .ok (.getfield 70, 3) := by decide +kernel
theorem dX11_table_34 : decode cX11_table 34 = .ok (.iconst 0, 1) := by decide +kernel
theorem dX11_table_35 : decode cX11_table 35 = .ok (.putfield 83, 3) := by decide +kernel
theorem dX11_table_38 : decode cX11_table 38 = .ok (.aload_n 0, 1) := by decide +kernel
theorem dX11_table_39 : decode cX11_table 39 = .ok (.getfield 56, 3) := by decide +kernel
theorem dX11_table_42 : decode cX11_table 42 = .ok (.invokevirtual 95, 3) := by decide +kernel
theorem dX11_table_45 : decode cX11_table 45 = .ok (.aload_n 0, 1) := by decide +kernel
theorem dX11_table_46 : decode cX11_table 46 = .ok (.getfield 19, 3) := by decide +kernel
theorem dX11_table_49 : decode cX11_table 49 = .ok (.aload_n 0, 1) := by decide +kernel
theorem dX11_table_50 : decode cX11_table 50 = .ok (.getfield 66, 3) := by decide +kernel
theorem dX11_table_53 : decode cX11_table 53 = .ok (.invokevirtual 98, 3) := by decide +kernel
theorem dX11_table_56 : decode cX11_table 56 = .ok (.aload_n 0, 1) := by decide +kernel
theorem dX11_table_57 : decode cX11_table 57 = .ok (.getfield 47, 3) := by decide +kernel
theorem dX11_table_60 : decode cX11_table 60 = .ok (.aload_n 0, 1) := by decide +kernel
theorem dX11_table_61 : decode cX11_table 61 = .ok (.getfield 66, 3) := by decide +kernel
theorem dX11_table_64 : decode cX11_table 64 = .ok (.aload_n 0, 1) := by decide +kernel
theorem dX11_table_65 : decode cX11_table 65 = .ok (.getfield 26, 3) := by decide +kernel
theorem dX11_table_68 : decode cX11_table 68 = .ok (.invokevirtual 102, 3) := by decide +kernel
theorem dX11_table_71 : decode cX11_table 71 = .ok (.aload_n 0, 1) := by decide +kernel
theorem dX11_table_72 : decode cX11_table 72 = .ok (.getfield 66, 3) := by decide +kernel
theorem dX11_table_75 : decode cX11_table 75 = .ok (.getfield 105, 3) := by decide +kernel
theorem dX11_table_78 : decode cX11_table 78 = .ok (.ireturn, 1) := by decide +kernel
theorem dX11_fault_0 : decode cX11_fault 0 = .ok (.iload_n 1, 1) := by decide +kernel
theorem dX11_fault_1 : decode cX11_fault 1 = .ok (.lookupswitch 43 #[(0, 27), (1, 35)], 27) := by decide +kernel
theorem dX11_fault_28 : decode cX11_fault 28 = .ok (.aload_n 0, 1) := by decide +kernel
theorem dX11_fault_29 : decode cX11_fault 29 = .ok (.getfield 10, 3) := by decide +kernel
theorem dX11_fault_32 : decode cX11_fault 32 = .ok (.getfield 108, 3) := by decide +kernel
theorem dX11_fault_35 : decode cX11_fault 35 = .ok (.ireturn, 1) := by decide +kernel
theorem dX11_fault_36 : decode cX11_fault 36 = .ok (.aload_n 0, 1) := by decide +kernel
theorem dX11_fault_37 : decode cX11_fault 37 = .ok (.getfield 10, 3) := by decide +kernel
theorem dX11_fault_40 : decode cX11_fault 40 = .ok (.getfield 111, 3) := by decide +kernel
theorem dX11_fault_43 : decode cX11_fault 43 = .ok (.ireturn, 1) := by decide +kernel
theorem dX11_fault_44 : decode cX11_fault 44 = .ok (.iconst (-1), 1) := by decide +kernel
theorem dX11_fault_45 : decode cX11_fault 45 = .ok (.ireturn, 1) := by decide +kernel
theorem dX11_word_0 : decode cX11_word 0 = .ok (.aload_n 0, 1) := by decide +kernel
theorem dX11_word_1 : decode cX11_word 1 = .ok (.getfield 19, 3) := by decide +kernel
theorem dX11_word_4 : decode cX11_word 4 = .ok (.getfield 114, 3) := by decide +kernel
theorem dX11_word_7 : decode cX11_word 7 = .ok (.getfield 118, 3) := by decide +kernel
theorem dX11_word_10 : decode cX11_word 10 = .ok (.iload_n 1, 1) := by decide +kernel
theorem dX11_word_11 : decode cX11_word 11 = .ok (.invokevirtual 123, 3) := by decide +kernel
theorem dX11_word_14 : decode cX11_word 14 = .ok (.ireturn, 1) := by decide +kernel
theorem dX11_slip_0 : decode cX11_slip 0 = .ok (.aload_n 0, 1) := by decide +kernel
theorem dX11_slip_1 : decode cX11_slip 1 = .ok (.iload_n 1, 1) := by decide +kernel
theorem dX11_slip_2 : decode cX11_slip 2 = .ok (.invokevirtual 127, 3) := by decide +kernel
theorem dX11_slip_5 : decode cX11_slip 5 = .ok (.astore_n 3, 1) := by decide +kernel
theorem dX11_slip_6 : decode cX11_slip 6 = .ok (.aload_n 3, 1) := by decide +kernel
theorem dX11_slip_7 : decode cX11_slip 7 = .ok (.ifnonnull 7, 3) := by decide +kernel
theorem dX11_slip_10 : decode cX11_slip 10 = .ok (.iconst (-1), 1) := by decide +kernel
theorem dX11_slip_11 : decode cX11_slip 11 = .ok (.goto 8, 3) := by decide +kernel
theorem dX11_slip_19 : decode cX11_slip 19 = .ok (.ireturn, 1) := by decide +kernel
theorem dX11_size_0 : decode cX11_size 0 = .ok (.aload_n 0, 1) := by decide +kernel
theorem dX11_size_1 : decode cX11_size 1 = .ok (.iload_n 1, 1) := by decide +kernel
theorem dX11_size_2 : decode cX11_size 2 = .ok (.invokevirtual 131, 3) := by decide +kernel
theorem dX11_size_5 : decode cX11_size 5 = .ok (.astore_n 2, 1) := by decide +kernel
theorem dX11_size_6 : decode cX11_size 6 = .ok (.aload_n 2, 1) := by decide +kernel
theorem dX11_size_7 : decode cX11_size 7 = .ok (.ifnonnull 7, 3) := by decide +kernel
theorem dX11_size_10 : decode cX11_size 10 = .ok (.iconst (-1), 1) := by decide +kernel
theorem dX11_size_11 : decode cX11_size 11 = .ok (.goto 7, 3) := by decide +kernel
theorem dX11_size_14 : decode cX11_size 14 = .ok (.aload_n 2, 1) := by decide +kernel
theorem dX11_size_15 : decode cX11_size 15 = .ok (.getfield 134, 3) := by decide +kernel
theorem dX11_size_18 : decode cX11_size 18 = .ok (.ireturn, 1) := by decide +kernel
theorem dX11_worth_0 : decode cX11_worth 0 = .ok (.aload_n 0, 1) := by decide +kernel
theorem dX11_worth_1 : decode cX11_worth 1 = .ok (.getfield 66, 3) := by decide +kernel
theorem dX11_worth_4 : decode cX11_worth 4 = .ok (.iload_n 1, 1) := by decide +kernel
theorem dX11_worth_5 : decode cX11_worth 5 = .ok (.invokevirtual 137, 3) := by decide +kernel
theorem dX11_worth_8 : decode cX11_worth 8 = .ok (.ifCond .eq 14, 3) := by decide +kernel
theorem dX11_worth_22 : decode cX11_worth 22 = .ok (.iconst (-1), 1) := by decide +kernel
theorem dX11_worth_23 : decode cX11_worth 23 = .ok (.ireturn, 1) := by decide +kernel
theorem dX11_beside_0 : decode cX11_beside 0 = .ok (.aload_n 0, 1) := by decide +kernel
theorem dX11_beside_1 : decode cX11_beside 1 = .ok (.getfield 66, 3) := by decide +kernel
theorem dX11_beside_4 : decode cX11_beside 4 = .ok (.iload_n 1, 1) := by decide +kernel
theorem dX11_beside_5 : decode cX11_beside 5 = .ok (.invokevirtual 137, 3) := by decide +kernel
theorem dX11_beside_8 : decode cX11_beside 8 = .ok (.ifCond .eq 26, 3) := by decide +kernel
theorem dX11_beside_34 : decode cX11_beside 34 = .ok (.ldc 147, 2) := by decide +kernel
theorem dX11_beside_36 : decode cX11_beside 36 = .ok (.ireturn, 1) := by decide +kernel
theorem dX11_sense_0 : decode cX11_sense 0 = .ok (.aload_n 0, 1) := by decide +kernel
theorem dX11_sense_1 : decode cX11_sense 1 = .ok (.iload_n 1, 1) := by decide +kernel
theorem dX11_sense_2 : decode cX11_sense 2 = .ok (.invokevirtual 131, 3) := by decide +kernel
theorem dX11_sense_5 : decode cX11_sense 5 = .ok (.astore_n 2, 1) := by decide +kernel
theorem dX11_sense_6 : decode cX11_sense 6 = .ok (.aload_n 2, 1) := by decide +kernel
theorem dX11_sense_7 : decode cX11_sense 7 = .ok (.ifnonnull 8, 3) := by decide +kernel
theorem dX11_sense_10 : decode cX11_sense 10 = .ok (.ldc 147, 2) := by decide +kernel
theorem dX11_sense_12 : decode cX11_sense 12 = .ok (.goto 11, 3) := by decide +kernel
theorem dX11_sense_15 : decode cX11_sense 15 = .ok (.aload_n 0, 1) := by decide +kernel
theorem dX11_sense_16 : decode cX11_sense 16 = .ok (.getfield 66, 3) := by decide +kernel
theorem dX11_sense_19 : decode cX11_sense 19 = .ok (.aload_n 2, 1) := by decide +kernel
theorem dX11_sense_20 : decode cX11_sense 20 = .ok (.invokevirtual 148, 3) := by decide +kernel
theorem dX11_sense_23 : decode cX11_sense 23 = .ok (.ireturn, 1) := by decide +kernel
theorem dX11_miss_0 : decode cX11_miss 0 = .ok (.aload_n 0, 1) := by decide +kernel
theorem dX11_miss_1 : decode cX11_miss 1 = .ok (.getfield 19, 3) := by decide +kernel
theorem dX11_miss_4 : decode cX11_miss 4 = .ok (.getfield 114, 3) := by decide +kernel
theorem dX11_miss_7 : decode cX11_miss 7 = .ok (.getfield 118, 3) := by decide +kernel
theorem dX11_miss_10 : decode cX11_miss 10 = .ok (.astore_n 2, 1) := by decide +kernel
theorem dX11_miss_11 : decode cX11_miss 11 = .ok (.aload_n 2, 1) := by decide +kernel
theorem dX11_miss_12 : decode cX11_miss 12 = .ok (.iload_n 1, 1) := by decide +kernel
theorem dX11_miss_13 : decode cX11_miss 13 = .ok (.invokevirtual 152, 3) := by decide +kernel
theorem dX11_miss_16 : decode cX11_miss 16 = .ok (.ifCond .eq 15, 3) := by decide +kernel
theorem dX11_miss_31 : decode cX11_miss 31 = .ok (.ldc 147, 2) := by decide +kernel
theorem dX11_miss_33 : decode cX11_miss 33 = .ok (.ireturn, 1) := by decide +kernel
theorem dX11_missed_0 : decode cX11_missed 0 = .ok (.iload_n 1, 1) := by decide +kernel
theorem dX11_missed_1 : decode cX11_missed 1 = .ok (.ifCond .eq 10, 3) := by decide +kernel
theorem dX11_missed_4 : decode cX11_missed 4 = .ok (.iload_n 1, 1) := by decide +kernel
theorem dX11_missed_5 : decode cX11_missed 5 = .ok (.iconst 1, 1) := by decide +kernel
theorem dX11_missed_6 : decode cX11_missed 6 = .ok (.if_icmp .eq 5, 3) := by decide +kernel
theorem dX11_missed_9 : decode cX11_missed 9 = .ok (.iconst (-1), 1) := by decide +kernel
theorem dX11_missed_10 : decode cX11_missed 10 = .ok (.ireturn, 1) := by decide +kernel
theorem dX11_missed_11 : decode cX11_missed 11 = .ok (.aload_n 0, 1) := by decide +kernel
theorem dX11_missed_12 : decode cX11_missed 12 = .ok (.getfield 66, 3) := by decide +kernel
theorem dX11_missed_15 : decode cX11_missed 15 = .ok (.aload_n 0, 1) := by decide +kernel
theorem dX11_missed_16 : decode cX11_missed 16 = .ok (.getfield 19, 3) := by decide +kernel
theorem dX11_missed_19 : decode cX11_missed 19 = .ok (.getfield 114, 3) := by decide +kernel
theorem dX11_missed_22 : decode cX11_missed 22 = .ok (.getfield 118, 3) := by decide +kernel
theorem dX11_missed_25 : decode cX11_missed 25 = .ok (.iload_n 1, 1) := by decide +kernel
theorem dX11_missed_26 : decode cX11_missed 26 = .ok (.iconst 1, 1) := by decide +kernel
theorem dX11_missed_27 : decode cX11_missed 27 = .ok (.if_icmp .ne 7, 3) := by decide +kernel
theorem dX11_missed_30 : decode cX11_missed 30 = .ok (.iconst 1, 1) := by decide +kernel
theorem dX11_missed_31 : decode cX11_missed 31 = .ok (.goto 4, 3) := by decide +kernel
theorem dX11_missed_34 : decode cX11_missed 34 = .ok (.iconst 0, 1) := by decide +kernel
theorem dX11_missed_35 : decode cX11_missed 35 = .ok (.invokevirtual 159, 3) := by decide +kernel
theorem dX11_missed_38 : decode cX11_missed 38 = .ok (.ireturn, 1) := by decide +kernel
theorem dX11_lacks_0 : decode cX11_lacks 0 = .ok (.aload_n 0, 1) := by decide +kernel
theorem dX11_lacks_1 : decode cX11_lacks 1 = .ok (.iload_n 1, 1) := by decide +kernel
theorem dX11_lacks_2 : decode cX11_lacks 2 = .ok (.invokevirtual 127, 3) := by decide +kernel
theorem dX11_lacks_5 : decode cX11_lacks 5 = .ok (.astore_n 2, 1) := by decide +kernel
theorem dX11_lacks_6 : decode cX11_lacks 6 = .ok (.aload_n 2, 1) := by decide +kernel
theorem dX11_lacks_7 : decode cX11_lacks 7 = .ok (.ifnonnull 7, 3) := by decide +kernel
theorem dX11_lacks_10 : decode cX11_lacks 10 = .ok (.iconst (-1), 1) := by decide +kernel
theorem dX11_lacks_11 : decode cX11_lacks 11 = .ok (.goto 23, 3) := by decide +kernel
theorem dX11_lacks_34 : decode cX11_lacks 34 = .ok (.ireturn, 1) := by decide +kernel
theorem dX11_round_0 : decode cX11_round 0 = .ok (.iload_n 1, 1) := by decide +kernel
theorem dX11_round_1 : decode cX11_round 1 = .ok (.invokestatic 167, 3) := by decide +kernel
theorem dX11_round_4 : decode cX11_round 4 = .ok (.ifCond .eq 18, 3) := by decide +kernel
theorem dX11_round_7 : decode cX11_round 7 = .ok (.aload_n 0, 1) := by decide +kernel
theorem dX11_round_8 : decode cX11_round 8 = .ok (.getfield 19, 3) := by decide +kernel
theorem dX11_round_11 : decode cX11_round 11 = .ok (.aload_n 0, 1) := by decide +kernel
theorem dX11_round_12 : decode cX11_round 12 = .ok (.getfield 66, 3) := by decide +kernel
theorem dX11_round_15 : decode cX11_round 15 = .ok (.iload_n 1, 1) := by decide +kernel
theorem dX11_round_16 : decode cX11_round 16 = .ok (.invokevirtual 170, 3) := by decide +kernel
theorem dX11_round_19 : decode cX11_round 19 = .ok (.goto 4, 3) := by decide +kernel
theorem dX11_round_22 : decode cX11_round 22 = .ok (.iconst (-1), 1) := by decide +kernel
theorem dX11_round_23 : decode cX11_round 23 = .ok (.ireturn, 1) := by decide +kernel
theorem dX11_leave_0 : decode cX11_leave 0 = .ok (.aload_n 0, 1) := by decide +kernel
theorem dX11_leave_1 : decode cX11_leave 1 = .ok (.getfield 19, 3) := by decide +kernel
theorem dX11_leave_4 : decode cX11_leave 4 = .ok (.iload_n 1, 1) := by decide +kernel
theorem dX11_leave_5 : decode cX11_leave 5 = .ok (.invokevirtual 174, 3) := by decide +kernel
theorem dX11_leave_8 : decode cX11_leave 8 = .ok (.ireturn, 1) := by decide +kernel
theorem dX11_put_0 : decode cX11_put 0 = .ok (.aload_n 0, 1) := by decide +kernel
theorem dX11_put_1 : decode cX11_put 1 = .ok (.getfield 66, 3) := by decide +kernel
theorem dX11_put_4 : decode cX11_put 4 = .ok (.iload_n 2, 1) := by decide +kernel
theorem dX11_put_5 : decode cX11_put 5 = .ok (.invokevirtual 137, 3) := by decide +kernel
theorem dX11_put_8 : decode cX11_put 8 = .ok (.ifCond .eq 15, 3) := by decide +kernel
theorem dX11_put_23 : decode cX11_put 23 = .ok (.iconst (-1), 1) := by decide +kernel
theorem dX11_put_24 : decode cX11_put 24 = .ok (.ireturn, 1) := by decide +kernel
theorem dX11_change_0 : decode cX11_change 0 = .ok (.aload_n 0, 1) := by decide +kernel
theorem dX11_change_1 : decode cX11_change 1 = .ok (.getfield 66, 3) := by decide +kernel
theorem dX11_change_4 : decode cX11_change 4 = .ok (.iload_n 2, 1) := by decide +kernel
theorem dX11_change_5 : decode cX11_change 5 = .ok (.invokevirtual 137, 3) := by decide +kernel
theorem dX11_change_8 : decode cX11_change 8 = .ok (.ifCond .eq 15, 3) := by decide +kernel
theorem dX11_change_23 : decode cX11_change 23 = .ok (.iconst (-1), 1) := by decide +kernel
theorem dX11_change_24 : decode cX11_change 24 = .ok (.ireturn, 1) := by decide +kernel
theorem dX11_undo_0 : decode cX11_undo 0 = .ok (.aload_n 0, 1) := by decide +kernel
theorem dX11_undo_1 : decode cX11_undo 1 = .ok (.getfield 19, 3) := by decide +kernel
theorem dX11_undo_4 : decode cX11_undo 4 = .ok (.invokevirtual 183, 3) := by decide +kernel
theorem dX11_undo_7 : decode cX11_undo 7 = .ok (.ireturn, 1) := by decide +kernel
theorem dX11_redo_0 : decode cX11_redo 0 = .ok (.aload_n 0, 1) := by decide +kernel
theorem dX11_redo_1 : decode cX11_redo 1 = .ok (.getfield 19, 3) := by decide +kernel
theorem dX11_redo_4 : decode cX11_redo 4 = .ok (.invokevirtual 186, 3) := by decide +kernel
theorem dX11_redo_7 : decode cX11_redo 7 = .ok (.ireturn, 1) := by decide +kernel
theorem dX11_ways_0 : decode cX11_ways 0 = .ok (.aload_n 0, 1) := by decide +kernel
theorem dX11_ways_1 : decode cX11_ways 1 = .ok (.iload_n 1, 1) := by decide +kernel
theorem dX11_ways_2 : decode cX11_ways 2 = .ok (.invokevirtual 131, 3) := by decide +kernel
theorem dX11_ways_5 : decode cX11_ways 5 = .ok (.astore_n 3, 1) := by decide +kernel
theorem dX11_ways_6 : decode cX11_ways 6 = .ok (.aload_n 0, 1) := by decide +kernel
theorem dX11_ways_7 : decode cX11_ways 7 = .ok (.iload_n 2, 1) := by decide +kernel
theorem dX11_ways_8 : decode cX11_ways 8 = .ok (.invokevirtual 131, 3) := by decide +kernel
theorem dX11_ways_11 : decode cX11_ways 11 = .ok (.astore 4, 2) := by decide +kernel
theorem dX11_ways_13 : decode cX11_ways 13 = .ok (.aload_n 3, 1) := by decide +kernel
theorem dX11_ways_14 : decode cX11_ways 14 = .ok (.ifnull 8, 3) := by decide +kernel
theorem dX11_ways_17 : decode cX11_ways 17 = .ok (.aload 4, 2) := by decide +kernel
theorem dX11_ways_19 : decode cX11_ways 19 = .ok (.ifnonnull 7, 3) := by decide +kernel
theorem dX11_ways_22 : decode cX11_ways 22 = .ok (.iconst (-1), 1) := by decide +kernel
theorem dX11_ways_23 : decode cX11_ways 23 = .ok (.goto 13, 3) := by decide +kernel
theorem dX11_ways_26 : decode cX11_ways 26 = .ok (.aload_n 0, 1) := by decide +kernel
theorem dX11_ways_27 : decode cX11_ways 27 = .ok (.getfield 26, 3) := by decide +kernel
theorem dX11_ways_30 : decode cX11_ways 30 = .ok (.aload_n 3, 1) := by decide +kernel
theorem dX11_ways_31 : decode cX11_ways 31 = .ok (.aload 4, 2) := by decide +kernel
theorem dX11_ways_33 : decode cX11_ways 33 = .ok (.invokevirtual 189, 3) := by decide +kernel
theorem dX11_ways_36 : decode cX11_ways 36 = .ok (.ireturn, 1) := by decide +kernel
theorem dX11_odds_0 : decode cX11_odds 0 = .ok (.aload_n 0, 1) := by decide +kernel
theorem dX11_odds_1 : decode cX11_odds 1 = .ok (.iload_n 1, 1) := by decide +kernel
theorem dX11_odds_2 : decode cX11_odds 2 = .ok (.invokevirtual 127, 3) := by decide +kernel
theorem dX11_odds_5 : decode cX11_odds 5 = .ok (.astore_n 3, 1) := by decide +kernel
theorem dX11_odds_6 : decode cX11_odds 6 = .ok (.aload_n 0, 1) := by decide +kernel
theorem dX11_odds_7 : decode cX11_odds 7 = .ok (.getfield 19, 3) := by decide +kernel
theorem dX11_odds_10 : decode cX11_odds 10 = .ok (.getfield 114, 3) := by decide +kernel
theorem dX11_odds_13 : decode cX11_odds 13 = .ok (.getfield 118, 3) := by decide +kernel
theorem dX11_odds_16 : decode cX11_odds 16 = .ok (.astore 4, 2) := by decide +kernel
theorem dX11_odds_18 : decode cX11_odds 18 = .ok (.aload_n 3, 1) := by decide +kernel
theorem dX11_odds_19 : decode cX11_odds 19 = .ok (.ifnull 22, 3) := by decide +kernel
theorem dX11_odds_41 : decode cX11_odds 41 = .ok (.iconst (-1), 1) := by decide +kernel
theorem dX11_odds_42 : decode cX11_odds 42 = .ok (.ireturn, 1) := by decide +kernel
theorem dX11_source_0 : decode cX11_source 0 = .ok (.aload_n 0, 1) := by decide +kernel
theorem dX11_source_1 : decode cX11_source 1 = .ok (.aload_n 0, 1) := by decide +kernel
theorem dX11_source_2 : decode cX11_source 2 = .ok (.iload_n 1, 1) := by decide +kernel
theorem dX11_source_3 : decode cX11_source 3 = .ok (.invokevirtual 127, 3) := by decide +kernel
theorem dX11_source_6 : decode cX11_source 6 = .ok (.aload_n 0, 1) := by decide +kernel
theorem dX11_source_7 : decode cX11_source 7 = .ok (.iload_n 2, 1) := by decide +kernel
theorem dX11_source_8 : decode cX11_source 8 = .ok (.invokevirtual 127, 3) := by decide +kernel
theorem dX11_source_11 : decode cX11_source 11 = .ok (.aload_n 0, 1) := by decide +kernel
theorem dX11_source_12 : decode cX11_source 12 = .ok (.getfield 60, 3) := by decide +kernel
theorem dX11_source_15 : decode cX11_source 15 = .ok (.invokevirtual 203, 3) := by decide +kernel
theorem dX11_source_18 : decode cX11_source 18 = .ok (.ireturn, 1) := by decide +kernel
theorem dX11_sources_0 : decode cX11_sources 0 = .ok (.aload_n 0, 1) := by decide +kernel
theorem dX11_sources_1 : decode cX11_sources 1 = .ok (.iload_n 1, 1) := by decide +kernel
theorem dX11_sources_2 : decode cX11_sources 2 = .ok (.invokevirtual 127, 3) := by decide +kernel
theorem dX11_sources_5 : decode cX11_sources 5 = .ok (.astore_n 3, 1) := by decide +kernel
theorem dX11_sources_6 : decode cX11_sources 6 = .ok (.aload_n 0, 1) := by decide +kernel
theorem dX11_sources_7 : decode cX11_sources 7 = .ok (.iload_n 2, 1) := by decide +kernel
theorem dX11_sources_8 : decode cX11_sources 8 = .ok (.invokevirtual 127, 3) := by decide +kernel
theorem dX11_sources_11 : decode cX11_sources 11 = .ok (.astore 4, 2) := by decide +kernel
theorem dX11_sources_13 : decode cX11_sources 13 = .ok (.aload_n 3, 1) := by decide +kernel
theorem dX11_sources_14 : decode cX11_sources 14 = .ok (.ifnull 8, 3) := by decide +kernel
theorem dX11_sources_22 : decode cX11_sources 22 = .ok (.iconst (-1), 1) := by decide +kernel
theorem dX11_sources_23 : decode cX11_sources 23 = .ok (.goto 17, 3) := by decide +kernel
theorem dX11_sources_40 : decode cX11_sources 40 = .ok (.ireturn, 1) := by decide +kernel
theorem dX11_three_0 : decode cX11_three 0 = .ok (.aload_n 0, 1) := by decide +kernel
theorem dX11_three_1 : decode cX11_three 1 = .ok (.aload_n 0, 1) := by decide +kernel
theorem dX11_three_2 : decode cX11_three 2 = .ok (.iload_n 1, 1) := by decide +kernel
theorem dX11_three_3 : decode cX11_three 3 = .ok (.invokevirtual 127, 3) := by decide +kernel
theorem dX11_three_6 : decode cX11_three 6 = .ok (.aload_n 0, 1) := by decide +kernel
theorem dX11_three_7 : decode cX11_three 7 = .ok (.iload_n 2, 1) := by decide +kernel
theorem dX11_three_8 : decode cX11_three 8 = .ok (.invokevirtual 127, 3) := by decide +kernel
theorem dX11_three_11 : decode cX11_three 11 = .ok (.aload_n 0, 1) := by decide +kernel
theorem dX11_three_12 : decode cX11_three 12 = .ok (.iload_n 3, 1) := by decide +kernel
theorem dX11_three_13 : decode cX11_three 13 = .ok (.invokevirtual 127, 3) := by decide +kernel
theorem dX11_three_16 : decode cX11_three 16 = .ok (.invokevirtual 203, 3) := by decide +kernel
theorem dX11_three_19 : decode cX11_three 19 = .ok (.ireturn, 1) := by decide +kernel
theorem dX11_common_0 : decode cX11_common 0 = .ok (.aload_n 0, 1) := by decide +kernel
theorem dX11_common_1 : decode cX11_common 1 = .ok (.getfield 56, 3) := by decide +kernel
theorem dX11_common_4 : decode cX11_common 4 = .ok (.invokevirtual 95, 3) := by decide +kernel
theorem dX11_common_7 : decode cX11_common 7 = .ok (.aload_n 0, 1) := by decide +kernel
theorem dX11_common_8 : decode cX11_common 8 = .ok (.iload_n 1, 1) := by decide +kernel
theorem dX11_common_9 : decode cX11_common 9 = .ok (.invokevirtual 127, 3) := by decide +kernel
theorem dX11_common_12 : decode cX11_common 12 = .ok (.astore_n 3, 1) := by decide +kernel
theorem dX11_common_13 : decode cX11_common 13 = .ok (.aload_n 0, 1) := by decide +kernel
theorem dX11_common_14 : decode cX11_common 14 = .ok (.iload_n 2, 1) := by decide +kernel
theorem dX11_common_15 : decode cX11_common 15 = .ok (.invokevirtual 127, 3) := by decide +kernel
theorem dX11_common_18 : decode cX11_common 18 = .ok (.astore 4, 2) := by decide +kernel
theorem dX11_common_20 : decode cX11_common 20 = .ok (.aload_n 3, 1) := by decide +kernel
theorem dX11_common_21 : decode cX11_common 21 = .ok (.ifnull 8, 3) := by decide +kernel
theorem dX11_common_29 : decode cX11_common 29 = .ok (.iconst (-1), 1) := by decide +kernel
theorem dX11_common_30 : decode cX11_common 30 = .ok (.ireturn, 1) := by decide +kernel
theorem dX11_keep_0 : decode cX11_keep 0 = .ok (.aload_n 0, 1) := by decide +kernel
theorem dX11_keep_1 : decode cX11_keep 1 = .ok (.getfield 56, 3) := by decide +kernel
theorem dX11_keep_4 : decode cX11_keep 4 = .ok (.invokevirtual 95, 3) := by decide +kernel
theorem dX11_keep_7 : decode cX11_keep 7 = .ok (.aload_n 0, 1) := by decide +kernel
theorem dX11_keep_8 : decode cX11_keep 8 = .ok (.iload_n 1, 1) := by decide +kernel
theorem dX11_keep_9 : decode cX11_keep 9 = .ok (.invokevirtual 214, 3) := by decide +kernel
theorem dX11_keep_12 : decode cX11_keep 12 = .ok (.ifCond .eq 10, 3) := by decide +kernel
theorem dX11_keep_22 : decode cX11_keep 22 = .ok (.ldc 147, 2) := by decide +kernel
theorem dX11_keep_24 : decode cX11_keep 24 = .ok (.ireturn, 1) := by decide +kernel
theorem dX11_mean_0 : decode cX11_mean 0 = .ok (.aload_n 0, 1) := by decide +kernel
theorem dX11_mean_1 : decode cX11_mean 1 = .ok (.iload_n 1, 1) := by decide +kernel
theorem dX11_mean_2 : decode cX11_mean 2 = .ok (.invokevirtual 214, 3) := by decide +kernel
theorem dX11_mean_5 : decode cX11_mean 5 = .ok (.ifCond .eq 10, 3) := by decide +kernel
theorem dX11_mean_15 : decode cX11_mean 15 = .ok (.ldc 147, 2) := by decide +kernel
theorem dX11_mean_17 : decode cX11_mean 17 = .ok (.ireturn, 1) := by decide +kernel
theorem dX11_duel_0 : decode cX11_duel 0 = .ok (.aload_n 0, 1) := by decide +kernel
theorem dX11_duel_1 : decode cX11_duel 1 = .ok (.getfield 19, 3) := by decide +kernel
theorem dX11_duel_4 : decode cX11_duel 4 = .ok (.getfield 114, 3) := by decide +kernel
theorem dX11_duel_7 : decode cX11_duel 7 = .ok (.getfield 118, 3) := by decide +kernel
theorem dX11_duel_10 : decode cX11_duel 10 = .ok (.astore_n 3, 1) := by decide +kernel
theorem dX11_duel_11 : decode cX11_duel 11 = .ok (.iload_n 1, 1) := by decide +kernel
theorem dX11_duel_12 : decode cX11_duel 12 = .ok (.iconst 1, 1) := by decide +kernel
theorem dX11_duel_13 : decode cX11_duel 13 = .ok (.if_icmp .lt 23, 3) := by decide +kernel
theorem dX11_duel_16 : decode cX11_duel 16 = .ok (.iload_n 1, 1) := by decide +kernel
theorem dX11_duel_17 : decode cX11_duel 17 = .ok (.iconst 4, 1) := by decide +kernel
theorem dX11_duel_18 : decode cX11_duel 18 = .ok (.if_icmp .gt 18, 3) := by decide +kernel
theorem dX11_duel_21 : decode cX11_duel 21 = .ok (.iload_n 1, 1) := by decide +kernel
theorem dX11_duel_22 : decode cX11_duel 22 = .ok (.aload_n 3, 1) := by decide +kernel
theorem dX11_duel_23 : decode cX11_duel 23 = .ok (.getfield 134, 3) := by decide +kernel
theorem dX11_duel_26 : decode cX11_duel 26 = .ok (.if_icmp .gt 10, 3) := by decide +kernel
theorem dX11_duel_36 : decode cX11_duel 36 = .ok (.ldc 147, 2) := by decide +kernel
theorem dX11_duel_38 : decode cX11_duel 38 = .ok (.ireturn, 1) := by decide +kernel
theorem dX11_apart_0 : decode cX11_apart 0 = .ok (.aload_n 0, 1) := by decide +kernel
theorem dX11_apart_1 : decode cX11_apart 1 = .ok (.iload_n 1, 1) := by decide +kernel
theorem dX11_apart_2 : decode cX11_apart 2 = .ok (.invokevirtual 131, 3) := by decide +kernel
theorem dX11_apart_5 : decode cX11_apart 5 = .ok (.astore_n 3, 1) := by decide +kernel
theorem dX11_apart_6 : decode cX11_apart 6 = .ok (.aload_n 0, 1) := by decide +kernel
theorem dX11_apart_7 : decode cX11_apart 7 = .ok (.iload_n 2, 1) := by decide +kernel
theorem dX11_apart_8 : decode cX11_apart 8 = .ok (.invokevirtual 131, 3) := by decide +kernel
theorem dX11_apart_11 : decode cX11_apart 11 = .ok (.astore 4, 2) := by decide +kernel
theorem dX11_apart_13 : decode cX11_apart 13 = .ok (.aload_n 3, 1) := by decide +kernel
theorem dX11_apart_14 : decode cX11_apart 14 = .ok (.ifnull 8, 3) := by decide +kernel
theorem dX11_apart_17 : decode cX11_apart 17 = .ok (.aload 4, 2) := by decide +kernel
theorem dX11_apart_19 : decode cX11_apart 19 = .ok (.ifnonnull 7, 3) := by decide +kernel
theorem dX11_apart_22 : decode cX11_apart 22 = .ok (.iconst (-1), 1) := by decide +kernel
theorem dX11_apart_23 : decode cX11_apart 23 = .ok (.goto 13, 3) := by decide +kernel
theorem dX11_apart_26 : decode cX11_apart 26 = .ok (.aload_n 0, 1) := by decide +kernel
theorem dX11_apart_27 : decode cX11_apart 27 = .ok (.getfield 26, 3) := by decide +kernel
theorem dX11_apart_30 : decode cX11_apart 30 = .ok (.aload_n 3, 1) := by decide +kernel
theorem dX11_apart_31 : decode cX11_apart 31 = .ok (.aload 4, 2) := by decide +kernel
theorem dX11_apart_33 : decode cX11_apart 33 = .ok (.invokevirtual 235, 3) := by decide +kernel
theorem dX11_apart_36 : decode cX11_apart 36 = .ok (.ireturn, 1) := by decide +kernel
theorem dX11_strange_0 : decode cX11_strange 0 = .ok (.aload_n 0, 1) := by decide +kernel
theorem dX11_strange_1 : decode cX11_strange 1 = .ok (.iload_n 1, 1) := by decide +kernel
theorem dX11_strange_2 : decode cX11_strange 2 = .ok (.invokevirtual 127, 3) := by decide +kernel
theorem dX11_strange_5 : decode cX11_strange 5 = .ok (.astore_n 2, 1) := by decide +kernel
theorem dX11_strange_6 : decode cX11_strange 6 = .ok (.aload_n 2, 1) := by decide +kernel
theorem dX11_strange_7 : decode cX11_strange 7 = .ok (.ifnonnull 7, 3) := by decide +kernel
theorem dX11_strange_10 : decode cX11_strange 10 = .ok (.iconst (-1), 1) := by decide +kernel
theorem dX11_strange_11 : decode cX11_strange 11 = .ok (.goto 26, 3) := by decide +kernel
theorem dX11_strange_37 : decode cX11_strange 37 = .ok (.ireturn, 1) := by decide +kernel
theorem dX11_becomes_0 : decode cX11_becomes 0 = .ok (.aload_n 0, 1) := by decide +kernel
theorem dX11_becomes_1 : decode cX11_becomes 1 = .ok (.iload_n 2, 1) := by decide +kernel
theorem dX11_becomes_2 : decode cX11_becomes 2 = .ok (.invokevirtual 127, 3) := by decide +kernel
theorem dX11_becomes_5 : decode cX11_becomes 5 = .ok (.astore_n 3, 1) := by decide +kernel
theorem dX11_becomes_6 : decode cX11_becomes 6 = .ok (.aload_n 3, 1) := by decide +kernel
theorem dX11_becomes_7 : decode cX11_becomes 7 = .ok (.ifnull 10, 3) := by decide +kernel
theorem dX11_becomes_17 : decode cX11_becomes 17 = .ok (.iconst (-1), 1) := by decide +kernel
theorem dX11_becomes_18 : decode cX11_becomes 18 = .ok (.goto 16, 3) := by decide +kernel
theorem dX11_becomes_34 : decode cX11_becomes 34 = .ok (.ireturn, 1) := by decide +kernel
theorem dX11_will_0 : decode cX11_will 0 = .ok (.iload_n 1, 1) := by decide +kernel
theorem dX11_will_1 : decode cX11_will 1 = .ok (.invokestatic 167, 3) := by decide +kernel
theorem dX11_will_4 : decode cX11_will 4 = .ok (.ifCond .eq 13, 3) := by decide +kernel
theorem dX11_will_7 : decode cX11_will 7 = .ok (.iload_n 2, 1) := by decide +kernel
theorem dX11_will_8 : decode cX11_will 8 = .ok (.ifCond .lt 9, 3) := by decide +kernel
theorem dX11_will_11 : decode cX11_will 11 = .ok (.iload_n 2, 1) := by decide +kernel
theorem dX11_will_12 : decode cX11_will 12 = .ok (.bipush 12, 2) := by decide +kernel
theorem dX11_will_14 : decode cX11_will 14 = .ok (.if_icmp .le 6, 3) := by decide +kernel
theorem dX11_will_17 : decode cX11_will 17 = .ok (.ldc 147, 2) := by decide +kernel
theorem dX11_will_19 : decode cX11_will 19 = .ok (.ireturn, 1) := by decide +kernel
theorem dX11_will_20 : decode cX11_will 20 = .ok (.aload_n 0, 1) := by decide +kernel
theorem dX11_will_21 : decode cX11_will 21 = .ok (.getfield 66, 3) := by decide +kernel
theorem dX11_will_24 : decode cX11_will 24 = .ok (.aload_n 0, 1) := by decide +kernel
theorem dX11_will_25 : decode cX11_will 25 = .ok (.getfield 19, 3) := by decide +kernel
theorem dX11_will_28 : decode cX11_will 28 = .ok (.aload_n 0, 1) := by decide +kernel
theorem dX11_will_29 : decode cX11_will 29 = .ok (.getfield 66, 3) := by decide +kernel
theorem dX11_will_32 : decode cX11_will 32 = .ok (.iload_n 1, 1) := by decide +kernel
theorem dX11_will_33 : decode cX11_will 33 = .ok (.iload_n 2, 1) := by decide +kernel
theorem dX11_will_34 : decode cX11_will 34 = .ok (.invokevirtual 245, 3) := by decide +kernel
theorem dX11_will_37 : decode cX11_will 37 = .ok (.invokevirtual 148, 3) := by decide +kernel
theorem dX11_will_40 : decode cX11_will 40 = .ok (.ireturn, 1) := by decide +kernel
theorem dX11_last_0 : decode cX11_last 0 = .ok (.aload_n 0, 1) := by decide +kernel
theorem dX11_last_1 : decode cX11_last 1 = .ok (.getfield 19, 3) := by decide +kernel
theorem dX11_last_4 : decode cX11_last 4 = .ok (.getfield 114, 3) := by decide +kernel
theorem dX11_last_7 : decode cX11_last 7 = .ok (.getfield 118, 3) := by decide +kernel
theorem dX11_last_10 : decode cX11_last 10 = .ok (.getfield 134, 3) := by decide +kernel
theorem dX11_last_13 : decode cX11_last 13 = .ok (.iconst 1, 1) := by decide +kernel
theorem dX11_last_14 : decode cX11_last 14 = .ok (.isub, 1) := by decide +kernel
theorem dX11_last_15 : decode cX11_last 15 = .ok (.istore_n 2, 1) := by decide +kernel
theorem dX11_last_16 : decode cX11_last 16 = .ok (.iload_n 1, 1) := by decide +kernel
theorem dX11_last_17 : decode cX11_last 17 = .ok (.invokestatic 167, 3) := by decide +kernel
theorem dX11_last_20 : decode cX11_last 20 = .ok (.ifCond .eq 7, 3) := by decide +kernel
theorem dX11_last_23 : decode cX11_last 23 = .ok (.iload_n 2, 1) := by decide +kernel
theorem dX11_last_24 : decode cX11_last 24 = .ok (.ifCond .ge 5, 3) := by decide +kernel
theorem dX11_last_27 : decode cX11_last 27 = .ok (.iconst (-1), 1) := by decide +kernel
theorem dX11_last_28 : decode cX11_last 28 = .ok (.ireturn, 1) := by decide +kernel
theorem dX11_mark_0 : decode cX11_mark 0 = .ok (.aload_n 0, 1) := by decide +kernel
theorem dX11_mark_1 : decode cX11_mark 1 = .ok (.iload_n 1, 1) := by decide +kernel
theorem dX11_mark_2 : decode cX11_mark 2 = .ok (.invokevirtual 131, 3) := by decide +kernel
theorem dX11_mark_5 : decode cX11_mark 5 = .ok (.astore_n 2, 1) := by decide +kernel
theorem dX11_mark_6 : decode cX11_mark 6 = .ok (.aload_n 2, 1) := by decide +kernel
theorem dX11_mark_7 : decode cX11_mark 7 = .ok (.ifnonnull 7, 3) := by decide +kernel
theorem dX11_mark_10 : decode cX11_mark 10 = .ok (.iconst (-1), 1) := by decide +kernel
theorem dX11_mark_11 : decode cX11_mark 11 = .ok (.goto 11, 3) := by decide +kernel
theorem dX11_mark_14 : decode cX11_mark 14 = .ok (.aload_n 0, 1) := by decide +kernel
theorem dX11_mark_15 : decode cX11_mark 15 = .ok (.getfield 66, 3) := by decide +kernel
theorem dX11_mark_18 : decode cX11_mark 18 = .ok (.aload_n 2, 1) := by decide +kernel
theorem dX11_mark_19 : decode cX11_mark 19 = .ok (.invokevirtual 249, 3) := by decide +kernel
theorem dX11_mark_22 : decode cX11_mark 22 = .ok (.ireturn, 1) := by decide +kernel
theorem dX11_mended_0 : decode cX11_mended 0 = .ok (.aload_n 0, 1) := by decide +kernel
