theorem m_959 : Cond.methodLink RL 65 yX11_lacks ∈ wsL_law := in_wsL_law_r40 _ (List.mem_of_getElem? (i := 23) rfl)
theorem m_960 : Cond.instanceMethod yX11_lacks ∈ wsL_law := in_wsL_law_r41 _ (List.mem_of_getElem? (i := 0) rfl)
theorem m_961 : Cond.selects RX11 yX11_lacks yX11_lacks ∈ wsL_law := in_wsL_law_r41 _ (List.mem_of_getElem? (i := 1) rfl)
theorem m_962 : Cond.code yX11_lacks cX11_lacks 3 (some .int) ∈ wsL_law := in_wsL_law_r41 _ (List.mem_of_getElem? (i := 2) rfl)
theorem m_967 : Cond.methodLink RL 68 yX12_lacks ∈ wsL_law := in_wsL_law_r41 _ (List.mem_of_getElem? (i := 7) rfl)
theorem m_968 : Cond.instanceMethod yX12_lacks ∈ wsL_law := in_wsL_law_r41 _ (List.mem_of_getElem? (i := 8) rfl)
theorem m_969 : Cond.selects RX12 yX12_lacks yX12_lacks ∈ wsL_law := in_wsL_law_r41 _ (List.mem_of_getElem? (i := 9) rfl)
theorem m_970 : Cond.code yX12_lacks cX12_lacks 4 (some .int) ∈ wsL_law := in_wsL_law_r41 _ (List.mem_of_getElem? (i := 10) rfl)
theorem m_971 : Cond.methodLink RL 69 yX11_round ∈ wsL_law := in_wsL_law_r41 _ (List.mem_of_getElem? (i := 11) rfl)
theorem m_972 : Cond.instanceMethod yX11_round ∈ wsL_law := in_wsL_law_r41 _ (List.mem_of_getElem? (i := 12) rfl)
theorem m_973 : Cond.selects RX11 yX11_round yX11_round ∈ wsL_law := in_wsL_law_r41 _ (List.mem_of_getElem? (i := 13) rfl)
theorem m_974 : Cond.code yX11_round cX11_round 2 (some .int) ∈ wsL_law := in_wsL_law_r41 _ (List.mem_of_getElem? (i := 14) rfl)
theorem m_1000 : Cond.methodLink RL 72 yX12_round ∈ wsL_law := in_wsL_law_r42 _ (List.mem_of_getElem? (i := 16) rfl)
theorem m_1001 : Cond.instanceMethod yX12_round ∈ wsL_law := in_wsL_law_r42 _ (List.mem_of_getElem? (i := 17) rfl)
theorem m_1002 : Cond.selects RX12 yX12_round yX12_round ∈ wsL_law := in_wsL_law_r42 _ (List.mem_of_getElem? (i := 18) rfl)
theorem m_1003 : Cond.code yX12_round cX12_round 2 (some .int) ∈ wsL_law := in_wsL_law_r42 _ (List.mem_of_getElem? (i := 19) rfl)
theorem m_1019 : Cond.methodLink RL 73 yX11_leave ∈ wsL_law := in_wsL_law_r43 _ (List.mem_of_getElem? (i := 11) rfl)
theorem m_1020 : Cond.instanceMethod yX11_leave ∈ wsL_law := in_wsL_law_r43 _ (List.mem_of_getElem? (i := 12) rfl)
theorem m_1021 : Cond.selects RX11 yX11_leave yX11_leave ∈ wsL_law := in_wsL_law_r43 _ (List.mem_of_getElem? (i := 13) rfl)
theorem m_1022 : Cond.code yX11_leave cX11_leave 2 (some .int) ∈ wsL_law := in_wsL_law_r43 _ (List.mem_of_getElem? (i := 14) rfl)
theorem m_1029 : Cond.methodLink RL 76 yX12_leave ∈ wsL_law := in_wsL_law_r43 _ (List.mem_of_getElem? (i := 21) rfl)
theorem m_1030 : Cond.instanceMethod yX12_leave ∈ wsL_law := in_wsL_law_r43 _ (List.mem_of_getElem? (i := 22) rfl)
theorem m_1031 : Cond.selects RX12 yX12_leave yX12_leave ∈ wsL_law := in_wsL_law_r43 _ (List.mem_of_getElem? (i := 23) rfl)
theorem m_1032 : Cond.code yX12_leave cX12_leave 3 (some .int) ∈ wsL_law := in_wsL_law_r44 _ (List.mem_of_getElem? (i := 0) rfl)
theorem m_1033 : Cond.methodLink RL 77 yX11_put ∈ wsL_law := in_wsL_law_r44 _ (List.mem_of_getElem? (i := 1) rfl)
theorem m_1034 : Cond.instanceMethod yX11_put ∈ wsL_law := in_wsL_law_r44 _ (List.mem_of_getElem? (i := 2) rfl)
theorem m_1035 : Cond.selects RX11 yX11_put yX11_put ∈ wsL_law := in_wsL_law_r44 _ (List.mem_of_getElem? (i := 3) rfl)
theorem m_1036 : Cond.code yX11_put cX11_put 3 (some .int) ∈ wsL_law := in_wsL_law_r44 _ (List.mem_of_getElem? (i := 4) rfl)
theorem m_1046 : Cond.methodLink RL 80 yX12_put ∈ wsL_law := in_wsL_law_r44 _ (List.mem_of_getElem? (i := 14) rfl)
theorem m_1047 : Cond.instanceMethod yX12_put ∈ wsL_law := in_wsL_law_r44 _ (List.mem_of_getElem? (i := 15) rfl)
theorem m_1048 : Cond.selects RX12 yX12_put yX12_put ∈ wsL_law := in_wsL_law_r44 _ (List.mem_of_getElem? (i := 16) rfl)
theorem m_1049 : Cond.code yX12_put cX12_put 4 (some .int) ∈ wsL_law := in_wsL_law_r44 _ (List.mem_of_getElem? (i := 17) rfl)
theorem m_1050 : Cond.methodLink RL 81 yX11_change ∈ wsL_law := in_wsL_law_r44 _ (List.mem_of_getElem? (i := 18) rfl)
theorem m_1051 : Cond.instanceMethod yX11_change ∈ wsL_law := in_wsL_law_r44 _ (List.mem_of_getElem? (i := 19) rfl)
theorem m_1052 : Cond.selects RX11 yX11_change yX11_change ∈ wsL_law := in_wsL_law_r44 _ (List.mem_of_getElem? (i := 20) rfl)
theorem m_1053 : Cond.code yX11_change cX11_change 3 (some .int) ∈ wsL_law := in_wsL_law_r44 _ (List.mem_of_getElem? (i := 21) rfl)
theorem m_1063 : Cond.methodLink RL 84 yX12_change ∈ wsL_law := in_wsL_law_r45 _ (List.mem_of_getElem? (i := 7) rfl)
theorem m_1064 : Cond.instanceMethod yX12_change ∈ wsL_law := in_wsL_law_r45 _ (List.mem_of_getElem? (i := 8) rfl)
theorem m_1065 : Cond.selects RX12 yX12_change yX12_change ∈ wsL_law := in_wsL_law_r45 _ (List.mem_of_getElem? (i := 9) rfl)
theorem m_1066 : Cond.code yX12_change cX12_change 4 (some .int) ∈ wsL_law := in_wsL_law_r45 _ (List.mem_of_getElem? (i := 10) rfl)
theorem m_1067 : Cond.methodLink RL 85 yX11_undo ∈ wsL_law := in_wsL_law_r45 _ (List.mem_of_getElem? (i := 11) rfl)
theorem m_1068 : Cond.instanceMethod yX11_undo ∈ wsL_law := in_wsL_law_r45 _ (List.mem_of_getElem? (i := 12) rfl)
theorem m_1069 : Cond.selects RX11 yX11_undo yX11_undo ∈ wsL_law := in_wsL_law_r45 _ (List.mem_of_getElem? (i := 13) rfl)
theorem m_1070 : Cond.code yX11_undo cX11_undo 1 (some .boolean) ∈ wsL_law := in_wsL_law_r45 _ (List.mem_of_getElem? (i := 14) rfl)
theorem m_1079 : Cond.methodLink RL 89 yX12_undo ∈ wsL_law := in_wsL_law_r45 _ (List.mem_of_getElem? (i := 23) rfl)
theorem m_1080 : Cond.instanceMethod yX12_undo ∈ wsL_law := in_wsL_law_r46 _ (List.mem_of_getElem? (i := 0) rfl)
theorem m_1081 : Cond.selects RX12 yX12_undo yX12_undo ∈ wsL_law := in_wsL_law_r46 _ (List.mem_of_getElem? (i := 1) rfl)
theorem m_1082 : Cond.code yX12_undo cX12_undo 1 (some .boolean) ∈ wsL_law := in_wsL_law_r46 _ (List.mem_of_getElem? (i := 2) rfl)
theorem m_1087 : Cond.methodLink RL 90 yX11_redo ∈ wsL_law := in_wsL_law_r46 _ (List.mem_of_getElem? (i := 7) rfl)
theorem m_1088 : Cond.instanceMethod yX11_redo ∈ wsL_law := in_wsL_law_r46 _ (List.mem_of_getElem? (i := 8) rfl)
theorem m_1089 : Cond.selects RX11 yX11_redo yX11_redo ∈ wsL_law := in_wsL_law_r46 _ (List.mem_of_getElem? (i := 9) rfl)
theorem m_1090 : Cond.code yX11_redo cX11_redo 1 (some .boolean) ∈ wsL_law := in_wsL_law_r46 _ (List.mem_of_getElem? (i := 10) rfl)
theorem m_1095 : Cond.methodLink RL 93 yX12_redo ∈ wsL_law := in_wsL_law_r46 _ (List.mem_of_getElem? (i := 15) rfl)
theorem m_1096 : Cond.instanceMethod yX12_redo ∈ wsL_law := in_wsL_law_r46 _ (List.mem_of_getElem? (i := 16) rfl)
theorem m_1097 : Cond.selects RX12 yX12_redo yX12_redo ∈ wsL_law := in_wsL_law_r46 _ (List.mem_of_getElem? (i := 17) rfl)
theorem m_1098 : Cond.code yX12_redo cX12_redo 1 (some .boolean) ∈ wsL_law := in_wsL_law_r46 _ (List.mem_of_getElem? (i := 18) rfl)
theorem m_1099 : Cond.methodLink RL 94 yX11_ways ∈ wsL_law := in_wsL_law_r46 _ (List.mem_of_getElem? (i := 19) rfl)
theorem m_1100 : Cond.instanceMethod yX11_ways ∈ wsL_law := in_wsL_law_r46 _ (List.mem_of_getElem? (i := 20) rfl)
theorem m_1101 : Cond.selects RX11 yX11_ways yX11_ways ∈ wsL_law := in_wsL_law_r46 _ (List.mem_of_getElem? (i := 21) rfl)
theorem m_1102 : Cond.code yX11_ways cX11_ways 5 (some .int) ∈ wsL_law := in_wsL_law_r46 _ (List.mem_of_getElem? (i := 22) rfl)
theorem m_1109 : Cond.methodLink RL 97 yX12_ways ∈ wsL_law := in_wsL_law_r47 _ (List.mem_of_getElem? (i := 5) rfl)
theorem m_1110 : Cond.instanceMethod yX12_ways ∈ wsL_law := in_wsL_law_r47 _ (List.mem_of_getElem? (i := 6) rfl)
theorem m_1111 : Cond.selects RX12 yX12_ways yX12_ways ∈ wsL_law := in_wsL_law_r47 _ (List.mem_of_getElem? (i := 7) rfl)
theorem m_1112 : Cond.code yX12_ways cX12_ways 3 (some .int) ∈ wsL_law := in_wsL_law_r47 _ (List.mem_of_getElem? (i := 8) rfl)
theorem m_1122 : Cond.methodLink RL 98 yX11_odds ∈ wsL_law := in_wsL_law_r47 _ (List.mem_of_getElem? (i := 18) rfl)
theorem m_1123 : Cond.instanceMethod yX11_odds ∈ wsL_law := in_wsL_law_r47 _ (List.mem_of_getElem? (i := 19) rfl)
theorem m_1124 : Cond.selects RX11 yX11_odds yX11_odds ∈ wsL_law := in_wsL_law_r47 _ (List.mem_of_getElem? (i := 20) rfl)
theorem m_1125 : Cond.code yX11_odds cX11_odds 5 (some .int) ∈ wsL_law := in_wsL_law_r47 _ (List.mem_of_getElem? (i := 21) rfl)
theorem m_1141 : Cond.methodLink RL 101 yX12_odds ∈ wsL_law := in_wsL_law_r48 _ (List.mem_of_getElem? (i := 13) rfl)
theorem m_1142 : Cond.instanceMethod yX12_odds ∈ wsL_law := in_wsL_law_r48 _ (List.mem_of_getElem? (i := 14) rfl)
theorem m_1143 : Cond.selects RX12 yX12_odds yX12_odds ∈ wsL_law := in_wsL_law_r48 _ (List.mem_of_getElem? (i := 15) rfl)
theorem m_1144 : Cond.code yX12_odds cX12_odds 5 (some .int) ∈ wsL_law := in_wsL_law_r48 _ (List.mem_of_getElem? (i := 16) rfl)
theorem m_1151 : Cond.methodLink RL 102 yX11_source ∈ wsL_law := in_wsL_law_r48 _ (List.mem_of_getElem? (i := 23) rfl)
theorem m_1152 : Cond.instanceMethod yX11_source ∈ wsL_law := in_wsL_law_r49 _ (List.mem_of_getElem? (i := 0) rfl)
theorem m_1153 : Cond.selects RX11 yX11_source yX11_source ∈ wsL_law := in_wsL_law_r49 _ (List.mem_of_getElem? (i := 1) rfl)
theorem m_1154 : Cond.code yX11_source cX11_source 3 (some .int) ∈ wsL_law := in_wsL_law_r49 _ (List.mem_of_getElem? (i := 2) rfl)
theorem m_1189 : Cond.methodLink RL 105 yX12_source ∈ wsL_law := in_wsL_law_r50 _ (List.mem_of_getElem? (i := 13) rfl)
theorem m_1190 : Cond.instanceMethod yX12_source ∈ wsL_law := in_wsL_law_r50 _ (List.mem_of_getElem? (i := 14) rfl)
theorem m_1191 : Cond.selects RX12 yX12_source yX12_source ∈ wsL_law := in_wsL_law_r50 _ (List.mem_of_getElem? (i := 15) rfl)
theorem m_1192 : Cond.code yX12_source cX12_source 3 (some .int) ∈ wsL_law := in_wsL_law_r50 _ (List.mem_of_getElem? (i := 16) rfl)
theorem m_1217 : Cond.methodLink RL 106 yX11_sources ∈ wsL_law := in_wsL_law_r51 _ (List.mem_of_getElem? (i := 17) rfl)
theorem m_1218 : Cond.instanceMethod yX11_sources ∈ wsL_law := in_wsL_law_r51 _ (List.mem_of_getElem? (i := 18) rfl)
theorem m_1219 : Cond.selects RX11 yX11_sources yX11_sources ∈ wsL_law := in_wsL_law_r51 _ (List.mem_of_getElem? (i := 19) rfl)
theorem m_1220 : Cond.code yX11_sources cX11_sources 5 (some .int) ∈ wsL_law := in_wsL_law_r51 _ (List.mem_of_getElem? (i := 20) rfl)
theorem m_1225 : Cond.methodLink RL 109 yX12_sources ∈ wsL_law := in_wsL_law_r52 _ (List.mem_of_getElem? (i := 1) rfl)
theorem m_1226 : Cond.instanceMethod yX12_sources ∈ wsL_law := in_wsL_law_r52 _ (List.mem_of_getElem? (i := 2) rfl)
theorem m_1227 : Cond.selects RX12 yX12_sources yX12_sources ∈ wsL_law := in_wsL_law_r52 _ (List.mem_of_getElem? (i := 3) rfl)
theorem m_1228 : Cond.code yX12_sources cX12_sources 3 (some .int) ∈ wsL_law := in_wsL_law_r52 _ (List.mem_of_getElem? (i := 4) rfl)
theorem m_1229 : Cond.methodLink RL 110 yX11_three ∈ wsL_law := in_wsL_law_r52 _ (List.mem_of_getElem? (i := 5) rfl)
theorem m_1230 : Cond.instanceMethod yX11_three ∈ wsL_law := in_wsL_law_r52 _ (List.mem_of_getElem? (i := 6) rfl)
theorem m_1231 : Cond.selects RX11 yX11_three yX11_three ∈ wsL_law := in_wsL_law_r52 _ (List.mem_of_getElem? (i := 7) rfl)
theorem m_1232 : Cond.code yX11_three cX11_three 4 (some .int) ∈ wsL_law := in_wsL_law_r52 _ (List.mem_of_getElem? (i := 8) rfl)
theorem m_1233 : Cond.methodLink RL 114 yX12_three ∈ wsL_law := in_wsL_law_r52 _ (List.mem_of_getElem? (i := 9) rfl)
theorem m_1234 : Cond.instanceMethod yX12_three ∈ wsL_law := in_wsL_law_r52 _ (List.mem_of_getElem? (i := 10) rfl)
theorem m_1235 : Cond.selects RX12 yX12_three yX12_three ∈ wsL_law := in_wsL_law_r52 _ (List.mem_of_getElem? (i := 11) rfl)
theorem m_1236 : Cond.code yX12_three cX12_three 5 (some .int) ∈ wsL_law := in_wsL_law_r52 _ (List.mem_of_getElem? (i := 12) rfl)
theorem iV_X11_lacks : yX11_lacks.cls = RX11 ∧ yX11_lacks.cls ≠ "java/lang/invoke/MethodHandle" ∧ yX11_lacks.cls ≠ "java/lang/invoke/VarHandle" ∧ (parseMethodDescriptor yX11_lacks.desc).map (fun d => d.parameters.length) = some 1 := by decide +kernel
theorem iV_X12_lacks : yX12_lacks.cls = RX12 ∧ yX12_lacks.cls ≠ "java/lang/invoke/MethodHandle" ∧ yX12_lacks.cls ≠ "java/lang/invoke/VarHandle" ∧ (parseMethodDescriptor yX12_lacks.desc).map (fun d => d.parameters.length) = some 1 := by decide +kernel
theorem iV_X11_round : yX11_round.cls = RX11 ∧ yX11_round.cls ≠ "java/lang/invoke/MethodHandle" ∧ yX11_round.cls ≠ "java/lang/invoke/VarHandle" ∧ (parseMethodDescriptor yX11_round.desc).map (fun d => d.parameters.length) = some 1 := by decide +kernel
theorem iV_X12_round : yX12_round.cls = RX12 ∧ yX12_round.cls ≠ "java/lang/invoke/MethodHandle" ∧ yX12_round.cls ≠ "java/lang/invoke/VarHandle" ∧ (parseMethodDescriptor yX12_round.desc).map (fun d => d.parameters.length) = some 1 := by decide +kernel
theorem iV_X11_leave : yX11_leave.cls = RX11 ∧ yX11_leave.cls ≠ "java/lang/invoke/MethodHandle" ∧ yX11_leave.cls ≠ "java/lang/invoke/VarHandle" ∧ (parseMethodDescriptor yX11_leave.desc).map (fun d => d.parameters.length) = some 1 := by decide +kernel
theorem iV_X12_leave : yX12_leave.cls = RX12 ∧ yX12_leave.cls ≠ "java/lang/invoke/MethodHandle" ∧ yX12_leave.cls ≠ "java/lang/invoke/VarHandle" ∧ (parseMethodDescriptor yX12_leave.desc).map (fun d => d.parameters.length) = some 1 := by decide +kernel
theorem iV_X11_put : yX11_put.cls = RX11 ∧ yX11_put.cls ≠ "java/lang/invoke/MethodHandle" ∧ yX11_put.cls ≠ "java/lang/invoke/VarHandle" ∧ (parseMethodDescriptor yX11_put.desc).map (fun d => d.parameters.length) = some 2 := by decide +kernel
theorem iV_X12_put : yX12_put.cls = RX12 ∧ yX12_put.cls ≠ "java/lang/invoke/MethodHandle" ∧ yX12_put.cls ≠ "java/lang/invoke/VarHandle" ∧ (parseMethodDescriptor yX12_put.desc).map (fun d => d.parameters.length) = some 2 := by decide +kernel
theorem iV_X11_change : yX11_change.cls = RX11 ∧ yX11_change.cls ≠ "java/lang/invoke/MethodHandle" ∧ yX11_change.cls ≠ "java/lang/invoke/VarHandle" ∧ (parseMethodDescriptor yX11_change.desc).map (fun d => d.parameters.length) = some 2 := by decide +kernel
theorem iV_X12_change : yX12_change.cls = RX12 ∧ yX12_change.cls ≠ "java/lang/invoke/MethodHandle" ∧ yX12_change.cls ≠ "java/lang/invoke/VarHandle" ∧ (parseMethodDescriptor yX12_change.desc).map (fun d => d.parameters.length) = some 2 := by decide +kernel
theorem iV_X11_undo : yX11_undo.cls = RX11 ∧ yX11_undo.cls ≠ "java/lang/invoke/MethodHandle" ∧ yX11_undo.cls ≠ "java/lang/invoke/VarHandle" ∧ (parseMethodDescriptor yX11_undo.desc).map (fun d => d.parameters.length) = some 0 := by decide +kernel
theorem iV_X12_undo : yX12_undo.cls = RX12 ∧ yX12_undo.cls ≠ "java/lang/invoke/MethodHandle" ∧ yX12_undo.cls ≠ "java/lang/invoke/VarHandle" ∧ (parseMethodDescriptor yX12_undo.desc).map (fun d => d.parameters.length) = some 0 := by decide +kernel
theorem iV_X11_redo : yX11_redo.cls = RX11 ∧ yX11_redo.cls ≠ "java/lang/invoke/MethodHandle" ∧ yX11_redo.cls ≠ "java/lang/invoke/VarHandle" ∧ (parseMethodDescriptor yX11_redo.desc).map (fun d => d.parameters.length) = some 0 := by decide +kernel
theorem iV_X12_redo : yX12_redo.cls = RX12 ∧ yX12_redo.cls ≠ "java/lang/invoke/MethodHandle" ∧ yX12_redo.cls ≠ "java/lang/invoke/VarHandle" ∧ (parseMethodDescriptor yX12_redo.desc).map (fun d => d.parameters.length) = some 0 := by decide +kernel
theorem iV_X11_ways : yX11_ways.cls = RX11 ∧ yX11_ways.cls ≠ "java/lang/invoke/MethodHandle" ∧ yX11_ways.cls ≠ "java/lang/invoke/VarHandle" ∧ (parseMethodDescriptor yX11_ways.desc).map (fun d => d.parameters.length) = some 2 := by decide +kernel
theorem iV_X12_ways : yX12_ways.cls = RX12 ∧ yX12_ways.cls ≠ "java/lang/invoke/MethodHandle" ∧ yX12_ways.cls ≠ "java/lang/invoke/VarHandle" ∧ (parseMethodDescriptor yX12_ways.desc).map (fun d => d.parameters.length) = some 2 := by decide +kernel
theorem iV_X11_odds : yX11_odds.cls = RX11 ∧ yX11_odds.cls ≠ "java/lang/invoke/MethodHandle" ∧ yX11_odds.cls ≠ "java/lang/invoke/VarHandle" ∧ (parseMethodDescriptor yX11_odds.desc).map (fun d => d.parameters.length) = some 2 := by decide +kernel
theorem iV_X12_odds : yX12_odds.cls = RX12 ∧ yX12_odds.cls ≠ "java/lang/invoke/MethodHandle" ∧ yX12_odds.cls ≠ "java/lang/invoke/VarHandle" ∧ (parseMethodDescriptor yX12_odds.desc).map (fun d => d.parameters.length) = some 2 := by decide +kernel
theorem iV_X11_source : yX11_source.cls = RX11 ∧ yX11_source.cls ≠ "java/lang/invoke/MethodHandle" ∧ yX11_source.cls ≠ "java/lang/invoke/VarHandle" ∧ (parseMethodDescriptor yX11_source.desc).map (fun d => d.parameters.length) = some 2 := by decide +kernel
theorem iV_X12_source : yX12_source.cls = RX12 ∧ yX12_source.cls ≠ "java/lang/invoke/MethodHandle" ∧ yX12_source.cls ≠ "java/lang/invoke/VarHandle" ∧ (parseMethodDescriptor yX12_source.desc).map (fun d => d.parameters.length) = some 2 := by decide +kernel
theorem iV_X11_sources : yX11_sources.cls = RX11 ∧ yX11_sources.cls ≠ "java/lang/invoke/MethodHandle" ∧ yX11_sources.cls ≠ "java/lang/invoke/VarHandle" ∧ (parseMethodDescriptor yX11_sources.desc).map (fun d => d.parameters.length) = some 2 := by decide +kernel
theorem iV_X12_sources : yX12_sources.cls = RX12 ∧ yX12_sources.cls ≠ "java/lang/invoke/MethodHandle" ∧ yX12_sources.cls ≠ "java/lang/invoke/VarHandle" ∧ (parseMethodDescriptor yX12_sources.desc).map (fun d => d.parameters.length) = some 2 := by decide +kernel
theorem iV_X11_three : yX11_three.cls = RX11 ∧ yX11_three.cls ≠ "java/lang/invoke/MethodHandle" ∧ yX11_three.cls ≠ "java/lang/invoke/VarHandle" ∧ (parseMethodDescriptor yX11_three.desc).map (fun d => d.parameters.length) = some 3 := by decide +kernel
theorem iV_X12_three : yX12_three.cls = RX12 ∧ yX12_three.cls ≠ "java/lang/invoke/MethodHandle" ∧ yX12_three.cls ≠ "java/lang/invoke/VarHandle" ∧ (parseMethodDescriptor yX12_three.desc).map (fun d => d.parameters.length) = some 3 := by decide +kernel
theorem g_L_65 : GoodIn wsL_law (wsV RL 65 RX11 yX11_lacks (.code yX11_lacks cX11_lacks 3 (some .int) :: wsL_law)) := gdV m_959 m_960 m_961 m_2 m_962
theorem g_L_68 : GoodIn wsL_law (wsV RL 68 RX12 yX12_lacks (.code yX12_lacks cX12_lacks 4 (some .int) :: wsL_law)) := gdV m_967 m_968 m_969 m_5 m_970
theorem g_L_69 : GoodIn wsL_law (wsV RL 69 RX11 yX11_round (.code yX11_round cX11_round 2 (some .int) :: wsL_law)) := gdV m_971 m_972 m_973 m_2 m_974
theorem g_L_72 : GoodIn wsL_law (wsV RL 72 RX12 yX12_round (.code yX12_round cX12_round 2 (some .int) :: wsL_law)) := gdV m_1000 m_1001 m_1002 m_5 m_1003
theorem g_L_73 : GoodIn wsL_law (wsV RL 73 RX11 yX11_leave (.code yX11_leave cX11_leave 2 (some .int) :: wsL_law)) := gdV m_1019 m_1020 m_1021 m_2 m_1022
theorem g_L_76 : GoodIn wsL_law (wsV RL 76 RX12 yX12_leave (.code yX12_leave cX12_leave 3 (some .int) :: wsL_law)) := gdV m_1029 m_1030 m_1031 m_5 m_1032
theorem g_L_77 : GoodIn wsL_law (wsV RL 77 RX11 yX11_put (.code yX11_put cX11_put 3 (some .int) :: wsL_law)) := gdV m_1033 m_1034 m_1035 m_2 m_1036
theorem g_L_80 : GoodIn wsL_law (wsV RL 80 RX12 yX12_put (.code yX12_put cX12_put 4 (some .int) :: wsL_law)) := gdV m_1046 m_1047 m_1048 m_5 m_1049
theorem g_L_81 : GoodIn wsL_law (wsV RL 81 RX11 yX11_change (.code yX11_change cX11_change 3 (some .int) :: wsL_law)) := gdV m_1050 m_1051 m_1052 m_2 m_1053
theorem g_L_84 : GoodIn wsL_law (wsV RL 84 RX12 yX12_change (.code yX12_change cX12_change 4 (some .int) :: wsL_law)) := gdV m_1063 m_1064 m_1065 m_5 m_1066
theorem g_L_85 : GoodIn wsL_law (wsV RL 85 RX11 yX11_undo (.code yX11_undo cX11_undo 1 (some .boolean) :: wsL_law)) := gdV m_1067 m_1068 m_1069 m_2 m_1070
theorem g_L_89 : GoodIn wsL_law (wsV RL 89 RX12 yX12_undo (.code yX12_undo cX12_undo 1 (some .boolean) :: wsL_law)) := gdV m_1079 m_1080 m_1081 m_5 m_1082
theorem g_L_90 : GoodIn wsL_law (wsV RL 90 RX11 yX11_redo (.code yX11_redo cX11_redo 1 (some .boolean) :: wsL_law)) := gdV m_1087 m_1088 m_1089 m_2 m_1090
theorem g_L_93 : GoodIn wsL_law (wsV RL 93 RX12 yX12_redo (.code yX12_redo cX12_redo 1 (some .boolean) :: wsL_law)) := gdV m_1095 m_1096 m_1097 m_5 m_1098
theorem g_L_94 : GoodIn wsL_law (wsV RL 94 RX11 yX11_ways (.code yX11_ways cX11_ways 5 (some .int) :: wsL_law)) := gdV m_1099 m_1100 m_1101 m_2 m_1102
theorem g_L_97 : GoodIn wsL_law (wsV RL 97 RX12 yX12_ways (.code yX12_ways cX12_ways 3 (some .int) :: wsL_law)) := gdV m_1109 m_1110 m_1111 m_5 m_1112
theorem g_L_98 : GoodIn wsL_law (wsV RL 98 RX11 yX11_odds (.code yX11_odds cX11_odds 5 (some .int) :: wsL_law)) := gdV m_1122 m_1123 m_1124 m_2 m_1125
theorem g_L_101 : GoodIn wsL_law (wsV RL 101 RX12 yX12_odds (.code yX12_odds cX12_odds 5 (some .int) :: wsL_law)) := gdV m_1141 m_1142 m_1143 m_5 m_1144
theorem g_L_102 : GoodIn wsL_law (wsV RL 102 RX11 yX11_source (.code yX11_source cX11_source 3 (some .int) :: wsL_law)) := gdV m_1151 m_1152 m_1153 m_2 m_1154
theorem g_L_105 : GoodIn wsL_law (wsV RL 105 RX12 yX12_source (.code yX12_source cX12_source 3 (some .int) :: wsL_law)) := gdV m_1189 m_1190 m_1191 m_5 m_1192
theorem g_L_106 : GoodIn wsL_law (wsV RL 106 RX11 yX11_sources (.code yX11_sources cX11_sources 5 (some .int) :: wsL_law)) := gdV m_1217 m_1218 m_1219 m_2 m_1220
theorem g_L_109 : GoodIn wsL_law (wsV RL 109 RX12 yX12_sources (.code yX12_sources cX12_sources 3 (some .int) :: wsL_law)) := gdV m_1225 m_1226 m_1227 m_5 m_1228
theorem g_L_110 : GoodIn wsL_law (wsV RL 110 RX11 yX11_three (.code yX11_three cX11_three 4 (some .int) :: wsL_law)) := gdV m_1229 m_1230 m_1231 m_2 m_1232
theorem g_L_114 : GoodIn wsL_law (wsV RL 114 RX12 yX12_three (.code yX12_three cX12_three 5 (some .int) :: wsL_law)) := gdV m_1233 m_1234 m_1235 m_5 m_1236
theorem dL_law_566 : decode cL_law 566 = .ok (.aload_n 1, 1) := by decide +kernel
theorem dL_law_567 : decode cL_law 567 = .ok (.aload_n 0, 1) := by decide +kernel
theorem dL_law_568 : decode cL_law 568 = .ok (.iload_n 3, 1) := by decide +kernel
theorem dL_law_569 : decode cL_law 569 = .ok (.iconst 1, 1) := by decide +kernel
theorem dL_law_570 : decode cL_law 570 = .ok (.iadd, 1) := by decide +kernel
theorem dL_law_571 : decode cL_law 571 = .ok (.iaload, 1) := by decide +kernel
theorem dL_law_572 : decode cL_law 572 = .ok (.invokevirtual 65, 3) := by decide +kernel
theorem dL_law_575 : decode cL_law 575 = .ok (.pop, 1) := by decide +kernel
theorem dL_law_576 : decode cL_law 576 = .ok (.aload_n 2, 1) := by decide +kernel
theorem dL_law_577 : decode cL_law 577 = .ok (.aload_n 0, 1) := by decide +kernel
theorem dL_law_578 : decode cL_law 578 = .ok (.iload_n 3, 1) := by decide +kernel
theorem dL_law_579 : decode cL_law 579 = .ok (.iconst 1, 1) := by decide +kernel
theorem dL_law_580 : decode cL_law 580 = .ok (.iadd, 1) := by decide +kernel
theorem dL_law_581 : decode cL_law 581 = .ok (.iaload, 1) := by decide +kernel
theorem dL_law_582 : decode cL_law 582 = .ok (.invokevirtual 68, 3) := by decide +kernel
theorem dL_law_585 : decode cL_law 585 = .ok (.pop, 1) := by decide +kernel
theorem dL_law_586 : decode cL_law 586 = .ok (.goto 984, 3) := by decide +kernel
theorem dL_law_589 : decode cL_law 589 = .ok (.aload_n 1, 1) := by decide +kernel
theorem dL_law_590 : decode cL_law 590 = .ok (.aload_n 0, 1) := by decide +kernel
theorem dL_law_591 : decode cL_law 591 = .ok (.iload_n 3, 1) := by decide +kernel
theorem dL_law_592 : decode cL_law 592 = .ok (.iconst 1, 1) := by decide +kernel
theorem dL_law_593 : decode cL_law 593 = .ok (.iadd, 1) := by decide +kernel
theorem dL_law_594 : decode cL_law 594 = .ok (.iaload, 1) := by decide +kernel
theorem dL_law_595 : decode cL_law 595 = .ok (.invokevirtual 69, 3) := by decide +kernel
theorem dL_law_598 : decode cL_law 598 = .ok (.pop, 1) := by decide +kernel
theorem dL_law_599 : decode cL_law 599 = .ok (.aload_n 2, 1) := by decide +kernel
theorem dL_law_600 : decode cL_law 600 = .ok (.aload_n 0, 1) := by decide +kernel
theorem dL_law_601 : decode cL_law 601 = .ok (.iload_n 3, 1) := by decide +kernel
theorem dL_law_602 : decode cL_law 602 = .ok (.iconst 1, 1) := by decide +kernel
theorem dL_law_603 : decode cL_law 603 = .ok (.iadd, 1) := by decide +kernel
theorem dL_law_604 : decode cL_law 604 = .ok (.iaload, 1) := by decide +kernel
theorem dL_law_605 : decode cL_law 605 = .ok (.invokevirtual 72, 3) := by decide +kernel
theorem dL_law_608 : decode cL_law 608 = .ok (.pop, 1) := by decide +kernel
theorem dL_law_609 : decode cL_law 609 = .ok (.goto 961, 3) := by decide +kernel
theorem dL_law_612 : decode cL_law 612 = .ok (.aload_n 1, 1) := by decide +kernel
theorem dL_law_613 : decode cL_law 613 = .ok (.aload_n 0, 1) := by decide +kernel
theorem dL_law_614 : decode cL_law 614 = .ok (.iload_n 3, 1) := by decide +kernel
theorem dL_law_615 : decode cL_law 615 = .ok (.iconst 1, 1) := by decide +kernel
theorem dL_law_616 : decode cL_law 616 = .ok (.iadd, 1) := by decide +kernel
theorem dL_law_617 : decode cL_law 617 = .ok (.iaload, 1) := by decide +kernel
theorem dL_law_618 : decode cL_law 618 = .ok (.invokevirtual 73, 3) := by decide +kernel
theorem dL_law_621 : decode cL_law 621 = .ok (.pop, 1) := by decide +kernel
theorem dL_law_622 : decode cL_law 622 = .ok (.aload_n 2, 1) := by decide +kernel
theorem dL_law_623 : decode cL_law 623 = .ok (.aload_n 0, 1) := by decide +kernel
theorem dL_law_624 : decode cL_law 624 = .ok (.iload_n 3, 1) := by decide +kernel
theorem dL_law_625 : decode cL_law 625 = .ok (.iconst 1, 1) := by decide +kernel
theorem dL_law_626 : decode cL_law 626 = .ok (.iadd, 1) := by decide +kernel
theorem dL_law_627 : decode cL_law 627 = .ok (.iaload, 1) := by decide +kernel
theorem dL_law_628 : decode cL_law 628 = .ok (.invokevirtual 76, 3) := by decide +kernel
theorem dL_law_631 : decode cL_law 631 = .ok (.pop, 1) := by decide +kernel
theorem dL_law_632 : decode cL_law 632 = .ok (.goto 938, 3) := by decide +kernel
theorem dL_law_635 : decode cL_law 635 = .ok (.aload_n 1, 1) := by decide +kernel
theorem dL_law_636 : decode cL_law 636 = .ok (.aload_n 0, 1) := by decide +kernel
theorem dL_law_637 : decode cL_law 637 = .ok (.iload_n 3, 1) := by decide +kernel
theorem dL_law_638 : decode cL_law 638 = .ok (.iconst 1, 1) := by decide +kernel
theorem dL_law_639 : decode cL_law 639 = .ok (.iadd, 1) := by decide +kernel
theorem dL_law_640 : decode cL_law 640 = .ok (.iaload, 1) := by decide +kernel
theorem dL_law_641 : decode cL_law 641 = .ok (.aload_n 0, 1) := by decide +kernel
theorem dL_law_642 : decode cL_law 642 = .ok (.iload_n 3, 1) := by decide +kernel
theorem dL_law_643 : decode cL_law 643 = .ok (.iconst 2, 1) := by decide +kernel
theorem dL_law_644 : decode cL_law 644 = .ok (.iadd, 1) := by decide +kernel
theorem dL_law_645 : decode cL_law 645 = .ok (.iaload, 1) := by decide +kernel
theorem dL_law_646 : decode cL_law 646 = .ok (.invokevirtual 77, 3) := by decide +kernel
theorem dL_law_649 : decode cL_law 649 = .ok (.pop, 1) := by decide +kernel
theorem dL_law_650 : decode cL_law 650 = .ok (.aload_n 2, 1) := by decide +kernel
theorem dL_law_651 : decode cL_law 651 = .ok (.aload_n 0, 1) := by decide +kernel
theorem dL_law_652 : decode cL_law 652 = .ok (.iload_n 3, 1) := by decide +kernel
theorem dL_law_653 : decode cL_law 653 = .ok (.iconst 1, 1) := by decide +kernel
theorem dL_law_654 : decode cL_law 654 = .ok (.iadd, 1) := by decide +kernel
theorem dL_law_655 : decode cL_law 655 = .ok (.iaload, 1) := by decide +kernel
theorem dL_law_656 : decode cL_law 656 = .ok (.aload_n 0, 1) := by decide +kernel
theorem dL_law_657 : decode cL_law 657 = .ok (.iload_n 3, 1) := by decide +kernel
theorem dL_law_658 : decode cL_law 658 = .ok (.iconst 2, 1) := by decide +kernel
theorem dL_law_659 : decode cL_law 659 = .ok (.iadd, 1) := by decide +kernel
theorem dL_law_660 : decode cL_law 660 = .ok (.iaload, 1) := by decide +kernel
theorem dL_law_661 : decode cL_law 661 = .ok (.invokevirtual 80, 3) := by decide +kernel
theorem dL_law_664 : decode cL_law 664 = .ok (.pop, 1) := by decide +kernel
theorem dL_law_665 : decode cL_law 665 = .ok (.goto 905, 3) := by decide +kernel
theorem dL_law_668 : decode cL_law 668 = .ok (.aload_n 1, 1) := by decide +kernel
theorem dL_law_669 : decode cL_law 669 = .ok (.aload_n 0, 1) := by decide +kernel
theorem dL_law_670 : decode cL_law 670 = .ok (.iload_n 3, 1) := by decide +kernel
theorem dL_law_671 : decode cL_law 671 = .ok (.iconst 1, 1) := by decide +kernel
theorem dL_law_672 : decode cL_law 672 = .ok (.iadd, 1) := by decide +kernel
theorem dL_law_673 : decode cL_law 673 = .ok (.iaload, 1) := by decide +kernel
theorem dL_law_674 : decode cL_law 674 = .ok (.aload_n 0, 1) := by decide +kernel
theorem dL_law_675 : decode cL_law 675 = .ok (.iload_n 3, 1) := by decide +kernel
theorem dL_law_676 : decode cL_law 676 = .ok (.iconst 2, 1) := by decide +kernel
theorem dL_law_677 : decode cL_law 677 = .ok (.iadd, 1) := by decide +kernel
theorem dL_law_678 : decode cL_law 678 = .ok (.iaload, 1) := by decide +kernel
theorem dL_law_679 : decode cL_law 679 = .ok (.invokevirtual 81, 3) := by decide +kernel
theorem dL_law_682 : decode cL_law 682 = .ok (.pop, 1) := by decide +kernel
theorem dL_law_683 : decode cL_law 683 = .ok (.aload_n 2, 1) := by decide +kernel
theorem dL_law_684 : decode cL_law 684 = .ok (.aload_n 0, 1) := by decide +kernel
theorem dL_law_685 : decode cL_law 685 = .ok (.iload_n 3, 1) := by decide +kernel
theorem dL_law_686 : decode cL_law 686 = .ok (.iconst 1, 1) := by decide +kernel
theorem dL_law_687 : decode cL_law 687 = .ok (.iadd, 1) := by decide +kernel
theorem dL_law_688 : decode cL_law 688 = .ok (.iaload, 1) := by decide +kernel
theorem dL_law_689 : decode cL_law 689 = .ok (.aload_n 0, 1) := by decide +kernel
theorem dL_law_690 : decode cL_law 690 = .ok (.iload_n 3, 1) := by decide +kernel
theorem dL_law_691 : decode cL_law 691 = .ok (.iconst 2, 1) := by decide +kernel
theorem dL_law_692 : decode cL_law 692 = .ok (.iadd, 1) := by decide +kernel
theorem dL_law_693 : decode cL_law 693 = .ok (.iaload, 1) := by decide +kernel
theorem dL_law_694 : decode cL_law 694 = .ok (.invokevirtual 84, 3) := by decide +kernel
theorem dL_law_697 : decode cL_law 697 = .ok (.pop, 1) := by decide +kernel
theorem dL_law_698 : decode cL_law 698 = .ok (.goto 872, 3) := by decide +kernel
theorem dL_law_701 : decode cL_law 701 = .ok (.aload_n 1, 1) := by decide +kernel
theorem dL_law_702 : decode cL_law 702 = .ok (.invokevirtual 85, 3) := by decide +kernel
theorem dL_law_705 : decode cL_law 705 = .ok (.pop, 1) := by decide +kernel
theorem dL_law_706 : decode cL_law 706 = .ok (.aload_n 2, 1) := by decide +kernel
theorem dL_law_707 : decode cL_law 707 = .ok (.invokevirtual 89, 3) := by decide +kernel
theorem dL_law_710 : decode cL_law 710 = .ok (.pop, 1) := by decide +kernel
theorem dL_law_711 : decode cL_law 711 = .ok (.goto 859, 3) := by decide +kernel
theorem dL_law_714 : decode cL_law 714 = .ok (.aload_n 1, 1) := by decide +kernel
theorem dL_law_715 : decode cL_law 715 = .ok (.invokevirtual 90, 3) := by decide +kernel
theorem dL_law_718 : decode cL_law 718 = .ok (.pop, 1) := by decide +kernel
theorem dL_law_719 : decode cL_law 719 = .ok (.aload_n 2, 1) := by decide +kernel
theorem dL_law_720 : decode cL_law 720 = .ok (.invokevirtual 93, 3) := by decide +kernel
theorem dL_law_723 : decode cL_law 723 = .ok (.pop, 1) := by decide +kernel
theorem dL_law_724 : decode cL_law 724 = .ok (.goto 846, 3) := by decide +kernel
theorem dL_law_727 : decode cL_law 727 = .ok (.aload_n 1, 1) := by decide +kernel
theorem dL_law_728 : decode cL_law 728 = .ok (.aload_n 0, 1) := by decide +kernel
theorem dL_law_729 : decode cL_law 729 = .ok (.iload_n 3, 1) := by decide +kernel
theorem dL_law_730 : decode cL_law 730 = .ok (.iconst 1, 1) := by decide +kernel
theorem dL_law_731 : decode cL_law 731 = .ok (.iadd, 1) := by decide +kernel
theorem dL_law_732 : decode cL_law 732 = .ok (.iaload, 1) := by decide +kernel
theorem dL_law_733 : decode cL_law 733 = .ok (.aload_n 0, 1) := by decide +kernel
theorem dL_law_734 : decode cL_law 734 = .ok (.iload_n 3, 1) := by decide +kernel
theorem dL_law_735 : decode cL_law 735 = .ok (.iconst 2, 1) := by decide +kernel
theorem dL_law_736 : decode cL_law 736 = .ok (.iadd, 1) := by decide +kernel
theorem dL_law_737 : decode cL_law 737 = .ok (.iaload, 1) := by decide +kernel
theorem dL_law_738 : decode cL_law 738 = .ok (.invokevirtual 94, 3) := by decide +kernel
theorem dL_law_741 : decode cL_law 741 = .ok (.pop, 1) := by decide +kernel
theorem dL_law_742 : decode cL_law 742 = .ok (.aload_n 2, 1) := by decide +kernel
theorem dL_law_743 : decode cL_law 743 = .ok (.aload_n 0, 1) := by decide +kernel
theorem dL_law_744 : decode cL_law 744 = .ok (.iload_n 3, 1) := by decide +kernel
theorem dL_law_745 : decode cL_law 745 = .ok (.iconst 1, 1) := by decide +kernel
theorem dL_law_746 : decode cL_law 746 = .ok (.iadd, 1) := by decide +kernel
theorem dL_law_747 : decode cL_law 747 = .ok (.iaload, 1) := by decide +kernel
theorem dL_law_748 : decode cL_law 748 = .ok (.aload_n 0, 1) := by decide +kernel
theorem dL_law_749 : decode cL_law 749 = .ok (.iload_n 3, 1) := by decide +kernel
theorem dL_law_750 : decode cL_law 750 = .ok (.iconst 2, 1) := by decide +kernel
theorem dL_law_751 : decode cL_law 751 = .ok (.iadd, 1) := by decide +kernel
theorem dL_law_752 : decode cL_law 752 = .ok (.iaload, 1) := by decide +kernel
theorem dL_law_753 : decode cL_law 753 = .ok (.invokevirtual 97, 3) := by decide +kernel
theorem dL_law_756 : decode cL_law 756 = .ok (.pop, 1) := by decide +kernel
theorem dL_law_757 : decode cL_law 757 = .ok (.goto 813, 3) := by decide +kernel
theorem dL_law_760 : decode cL_law 760 = .ok (.aload_n 1, 1) := by decide +kernel
theorem dL_law_761 : decode cL_law 761 = .ok (.aload_n 0, 1) := by decide +kernel
theorem dL_law_762 : decode cL_law 762 = .ok (.iload_n 3, 1) := by decide +kernel
theorem dL_law_763 : decode cL_law 763 = .ok (.iconst 1, 1) := by decide +kernel
theorem dL_law_764 : decode cL_law 764 = .ok (.iadd, 1) := by decide +kernel
theorem dL_law_765 : decode cL_law 765 = .ok (.iaload, 1) := by decide +kernel
theorem dL_law_766 : decode cL_law 766 = .ok (.aload_n 0, 1) := by decide +kernel
theorem dL_law_767 : decode cL_law 767 = .ok (.iload_n 3, 1) := by decide +kernel
theorem dL_law_768 : decode cL_law 768 = .ok (.iconst 2, 1) := by decide +kernel
theorem dL_law_769 : decode cL_law 769 = .ok (.iadd, 1) := by decide +kernel
theorem dL_law_770 : decode cL_law 770 = .ok (.iaload, 1) := by decide +kernel
theorem dL_law_771 : decode cL_law 771 = .ok (.invokevirtual 98, 3) := by decide +kernel
theorem dL_law_774 : decode cL_law 774 = .ok (.pop, 1) := by decide +kernel
theorem dL_law_775 : decode cL_law 775 = .ok (.aload_n 2, 1) := by decide +kernel
theorem dL_law_776 : decode cL_law 776 = .ok (.aload_n 0, 1) := by decide +kernel
theorem dL_law_777 : decode cL_law 777 = .ok (.iload_n 3, 1) := by decide +kernel
theorem dL_law_778 : decode cL_law 778 = .ok (.iconst 1, 1) := by decide +kernel
theorem dL_law_779 : decode cL_law 779 = .ok (.iadd, 1) := by decide +kernel
theorem dL_law_780 : decode cL_law 780 = .ok (.iaload, 1) := by decide +kernel
theorem dL_law_781 : decode cL_law 781 = .ok (.aload_n 0, 1) := by decide +kernel
theorem dL_law_782 : decode cL_law 782 = .ok (.iload_n 3, 1) := by decide +kernel
theorem dL_law_783 : decode cL_law 783 = .ok (.iconst 2, 1) := by decide +kernel
theorem dL_law_784 : decode cL_law 784 = .ok (.iadd, 1) := by decide +kernel
theorem dL_law_785 : decode cL_law 785 = .ok (.iaload, 1) := by decide +kernel
theorem dL_law_786 : decode cL_law 786 = .ok (.invokevirtual 101, 3) := by decide +kernel
theorem dL_law_789 : decode cL_law 789 = .ok (.pop, 1) := by decide +kernel
theorem dL_law_790 : decode cL_law 790 = .ok (.goto 780, 3) := by decide +kernel
theorem dL_law_793 : decode cL_law 793 = .ok (.aload_n 1, 1) := by decide +kernel
theorem dL_law_794 : decode cL_law 794 = .ok (.aload_n 0, 1) := by decide +kernel
theorem dL_law_795 : decode cL_law 795 = .ok (.iload_n 3, 1) := by decide +kernel
theorem dL_law_796 : decode cL_law 796 = .ok (.iconst 1, 1) := by decide +kernel
theorem dL_law_797 : decode cL_law 797 = .ok (.iadd, 1) := by decide +kernel
theorem dL_law_798 : decode cL_law 798 = .ok (.iaload, 1) := by decide +kernel
theorem dL_law_799 : decode cL_law 799 = .ok (.aload_n 0, 1) := by decide +kernel
theorem dL_law_800 : decode cL_law 800 = .ok (.iload_n 3, 1) := by decide +kernel
theorem dL_law_801 : decode cL_law 801 = .ok (.iconst 2, 1) := by decide +kernel
theorem dL_law_802 : decode cL_law 802 = .ok (.iadd, 1) := by decide +kernel
theorem dL_law_803 : decode cL_law 803 = .ok (.iaload, 1) := by decide +kernel
theorem dL_law_804 : decode cL_law 804 = .ok (.invokevirtual 102, 3) := by decide +kernel
theorem dL_law_807 : decode cL_law 807 = .ok (.pop, 1) := by decide +kernel
theorem dL_law_808 : decode cL_law 808 = .ok (.aload_n 2, 1) := by decide +kernel
theorem dL_law_809 : decode cL_law 809 = .ok (.aload_n 0, 1) := by decide +kernel
theorem dL_law_810 : decode cL_law 810 = .ok (.iload_n 3, 1) := by decide +kernel
theorem dL_law_811 : decode cL_law 811 = .ok (.iconst 1, 1) := by decide +kernel
theorem dL_law_812 : decode cL_law 812 = .ok (.iadd, 1) := by decide +kernel
theorem dL_law_813 : decode cL_law 813 = .ok (.iaload, 1) := by decide +kernel
theorem dL_law_814 : decode cL_law 814 = .ok (.aload_n 0, 1) := by decide +kernel
theorem dL_law_815 : decode cL_law 815 = .ok (.iload_n 3, 1) := by decide +kernel
theorem dL_law_816 : decode cL_law 816 = .ok (.iconst 2, 1) := by decide +kernel
theorem dL_law_817 : decode cL_law 817 = .ok (.iadd, 1) := by decide +kernel
theorem dL_law_818 : decode cL_law 818 = .ok (.iaload, 1) := by decide +kernel
theorem dL_law_819 : decode cL_law 819 = .ok (.invokevirtual 105, 3) := by decide +kernel
theorem dL_law_822 : decode cL_law 822 = .ok (.pop, 1) := by decide +kernel
theorem dL_law_823 : decode cL_law 823 = .ok (.goto 747, 3) := by decide +kernel
theorem dL_law_826 : decode cL_law 826 = .ok (.aload_n 1, 1) := by decide +kernel
theorem dL_law_827 : decode cL_law 827 = .ok (.aload_n 0, 1) := by decide +kernel
theorem dL_law_828 : decode cL_law 828 = .ok (.iload_n 3, 1) := by decide +kernel
theorem dL_law_829 : decode cL_law 829 = .ok (.iconst 1, 1) := by decide +kernel
theorem dL_law_830 : decode cL_law 830 = .ok (.iadd, 1) := by decide +kernel
theorem dL_law_831 : decode cL_law 831 = .ok (.iaload, 1) := by decide +kernel
theorem dL_law_832 : decode cL_law 832 = .ok (.aload_n 0, 1) := by decide +kernel
theorem dL_law_833 : decode cL_law 833 = .ok (.iload_n 3, 1) := by decide +kernel
theorem dL_law_834 : decode cL_law 834 = .ok (.iconst 2, 1) := by decide +kernel
theorem dL_law_835 : decode cL_law 835 = .ok (.iadd, 1) := by decide +kernel
theorem dL_law_836 : decode cL_law 836 = .ok (.iaload, 1) := by decide +kernel
theorem dL_law_837 : decode cL_law 837 = .ok (.invokevirtual 106, 3) := by decide +kernel
theorem dL_law_840 : decode cL_law 840 = .ok (.pop, 1) := by decide +kernel
theorem dL_law_841 : decode cL_law 841 = .ok (.aload_n 2, 1) := by decide +kernel
theorem dL_law_842 : decode cL_law 842 = .ok (.aload_n 0, 1) := by decide +kernel
theorem dL_law_843 : decode cL_law 843 = .ok (.iload_n 3, 1) := by decide +kernel
theorem dL_law_844 : decode cL_law 844 = .ok (.iconst 1, 1) := by decide +kernel
theorem dL_law_845 : decode cL_law 845 = .ok (.iadd, 1) := by decide +kernel
theorem dL_law_846 : decode cL_law 846 = .ok (.iaload, 1) := by decide +kernel
theorem dL_law_847 : decode cL_law 847 = .ok (.aload_n 0, 1) := by decide +kernel
theorem dL_law_848 : decode cL_law 848 = .ok (.iload_n 3, 1) := by decide +kernel
theorem dL_law_849 : decode cL_law 849 = .ok (.iconst 2, 1) := by decide +kernel
theorem dL_law_850 : decode cL_law 850 = .ok (.iadd, 1) := by decide +kernel
theorem dL_law_851 : decode cL_law 851 = .ok (.iaload, 1) := by decide +kernel
theorem dL_law_852 : decode cL_law 852 = .ok (.invokevirtual 109, 3) := by decide +kernel
theorem dL_law_855 : decode cL_law 855 = .ok (.pop, 1) := by decide +kernel
theorem dL_law_856 : decode cL_law 856 = .ok (.goto 714, 3) := by decide +kernel
theorem dL_law_859 : decode cL_law 859 = .ok (.aload_n 1, 1) := by decide +kernel
theorem dL_law_860 : decode cL_law 860 = .ok (.aload_n 0, 1) := by decide +kernel
theorem dL_law_861 : decode cL_law 861 = .ok (.iload_n 3, 1) := by decide +kernel
theorem dL_law_862 : decode cL_law 862 = .ok (.iconst 1, 1) := by decide +kernel
theorem dL_law_863 : decode cL_law 863 = .ok (.iadd, 1) := by decide +kernel
theorem dL_law_864 : decode cL_law 864 = .ok (.iaload, 1) := by decide +kernel
theorem dL_law_865 : decode cL_law 865 = .ok (.aload_n 0, 1) := by decide +kernel
theorem dL_law_866 : decode cL_law 866 = .ok (.iload_n 3, 1) := by decide +kernel
theorem dL_law_867 : decode cL_law 867 = .ok (.iconst 2, 1) := by decide +kernel
theorem dL_law_868 : decode cL_law 868 = .ok (.iadd, 1) := by decide +kernel
theorem dL_law_869 : decode cL_law 869 = .ok (.iaload, 1) := by decide +kernel
theorem dL_law_870 : decode cL_law 870 = .ok (.aload_n 0, 1) := by decide +kernel
theorem dL_law_871 : decode cL_law 871 = .ok (.iload_n 3, 1) := by decide +kernel
theorem dL_law_872 : decode cL_law 872 = .ok (.iconst 3, 1) := by decide +kernel
theorem dL_law_873 : decode cL_law 873 = .ok (.iadd, 1) := by decide +kernel
theorem dL_law_874 : decode cL_law 874 = .ok (.iaload, 1) := by decide +kernel
theorem dL_law_875 : decode cL_law 875 = .ok (.invokevirtual 110, 3) := by decide +kernel
theorem dL_law_878 : decode cL_law 878 = .ok (.pop, 1) := by decide +kernel
theorem dL_law_879 : decode cL_law 879 = .ok (.aload_n 2, 1) := by decide +kernel
theorem dL_law_880 : decode cL_law 880 = .ok (.aload_n 0, 1) := by decide +kernel
theorem dL_law_881 : decode cL_law 881 = .ok (.iload_n 3, 1) := by decide +kernel
theorem dL_law_882 : decode cL_law 882 = .ok (.iconst 1, 1) := by decide +kernel
theorem dL_law_883 : decode cL_law 883 = .ok (.iadd, 1) := by decide +kernel
theorem dL_law_884 : decode cL_law 884 = .ok (.iaload, 1) := by decide +kernel
theorem dL_law_885 : decode cL_law 885 = .ok (.aload_n 0, 1) := by decide +kernel
theorem dL_law_886 : decode cL_law 886 = .ok (.iload_n 3, 1) := by decide +kernel
theorem dL_law_887 : decode cL_law 887 = .ok (.iconst 2, 1) := by decide +kernel
theorem dL_law_888 : decode cL_law 888 = .ok (.iadd, 1) := by decide +kernel
theorem dL_law_889 : decode cL_law 889 = .ok (.iaload, 1) := by decide +kernel
theorem dL_law_890 : decode cL_law 890 = .ok (.aload_n 0, 1) := by decide +kernel
theorem dL_law_891 : decode cL_law 891 = .ok (.iload_n 3, 1) := by decide +kernel
theorem dL_law_892 : decode cL_law 892 = .ok (.iconst 3, 1) := by decide +kernel
theorem dL_law_893 : decode cL_law 893 = .ok (.iadd, 1) := by decide +kernel
theorem dL_law_894 : decode cL_law 894 = .ok (.iaload, 1) := by decide +kernel
theorem dL_law_895 : decode cL_law 895 = .ok (.invokevirtual 114, 3) := by decide +kernel
theorem dL_law_898 : decode cL_law 898 = .ok (.pop, 1) := by decide +kernel
theorem dL_law_899 : decode cL_law 899 = .ok (.goto 671, 3) := by decide +kernel
set_option maxRecDepth 100000 in
set_option maxHeartbeats 4000000 in
theorem law_c12 {p : Program} {l : Launch} {e : Env} {s : State} {m : MethodId} {below : List Frame} {meth : Method} {c : Code} {b L x0 m0 : Nat} {xs : Nat → Int32} {i : Int} {E : (Nat → Prop) → State → Prop} {cy : Nat → ClassId} {D : va_G} (C : gC p s m #[Value.ref b] c code 4 RL) (hXX : fxX E D cy) (hEs : E (fun q : Nat => s.heap.size ≤ q) s) (hX : va_X b L xs s s.heap) (hbl : b < s.heap.size) (hL : L ≤ 3072) (hi : 0 ≤ i) (hi6 : i + 6 ≤ L) (kk : lawG p l e s m below meth c b 1570 [(0, .ref b), (1, .ref x0), (2, .ref m0), (3, zv i)] [] (lP cy D (fun q : Nat => s.heap.size ≤ q) s.heap x0 m0)) : lawG p l e s m below meth c b 566 [(0, .ref b), (1, .ref x0), (2, .ref m0), (3, zv i)] [] (lP cy D (fun q : Nat => s.heap.size ≤ q) s.heap x0 m0) := by
  have hE := hXX.1
  have hA : ∀ q : Nat, s.heap.size ≤ q → (fun q : Nat => s.heap.size ≤ q) q := fun _ h => h
  have hbA : ¬ (fun q : Nat => s.heap.size ≤ q) b := Nat.not_le.mpr hbl
  refine l_ex (fun t => ?_)
  refine gq_aln C 1 dL_law_566 rfl rfl rfl ?_
  refine gq_aln C 0 dL_law_567 rfl rfl rfl ?_
  refine gq_iln C 3 dL_law_568 rfl rfl rfl ?_
  refine gq_ic C dL_law_569 rfl ?_
  refine gq_add C dL_law_570 rfl ?_
  refine l_sld C hX hbl hbA hL (by omega) (by omega) dL_law_571 rfl ?_
  refine l_x (ts := [.inl (-2147483648, 2147483647)]) (As := [zv (xs (Int.toNat (i + 1))).toInt]) (rest := []) C hE hEs rfl hA (fun gx ax => kx149 hXX) rfl ⟨by decide, by decide⟩ rfl (fun gs ad => ⟨ok_top _, trivial⟩) (ret_ok rfl) ⟨Nat.le_of_ble_eq_true rfl, Nat.le_of_ble_eq_true rfl⟩ ⟨Nat.le_of_ble_eq_true rfl, Nat.le_of_ble_eq_true rfl⟩ iV_X11_lacks g_L_65 dL_law_572 rfl rfl (Nat.le_of_ble_eq_true rfl) rfl (fun z572 => ?_)
  refine gq_pop C dL_law_575 rfl rfl ?_
  refine gq_aln C 2 dL_law_576 rfl rfl rfl ?_
  refine gq_aln C 0 dL_law_577 rfl rfl rfl ?_
  refine gq_iln C 3 dL_law_578 rfl rfl rfl ?_
  refine gq_ic C dL_law_579 rfl ?_
  refine gq_add C dL_law_580 rfl ?_
  refine l_sld C hX hbl hbA hL (by omega) (by omega) dL_law_581 rfl ?_
  refine l_m (As := [zv (xs (Int.toNat (i + 1))).toInt]) (rest := []) C hE hEs rfl hA (mc_fx (fun am => km26 hE) rfl (by decide +kernel) ⟨by decide, by decide, by decide⟩ (fun am ha => (show fx_ty _ am [.inr (.inr 1), .inl (-2147483648, 2147483647)] [.ref m0, zv (xs (Int.toNat (i + 1))).toInt] from oks_ok ⟨rt_ok ⟨0, ha, rfl⟩ (by decide), ok_top _, trivial⟩)) (ret_ok rfl)) ⟨Nat.le_of_ble_eq_true rfl, Nat.le_of_ble_eq_true rfl⟩ ⟨Nat.le_of_ble_eq_true rfl, Nat.le_of_ble_eq_true rfl⟩ iV_X12_lacks g_L_68 dL_law_582 rfl rfl (Nat.le_of_ble_eq_true rfl) rfl (fun z582 => ?_)
  refine gq_pop C dL_law_585 rfl rfl ?_
  refine gq_goto C 1570 dL_law_586 (by decide) ?_
  exact l_in kk
set_option maxRecDepth 100000 in
set_option maxHeartbeats 4000000 in
theorem law_c13 {p : Program} {l : Launch} {e : Env} {s : State} {m : MethodId} {below : List Frame} {meth : Method} {c : Code} {b L x0 m0 : Nat} {xs : Nat → Int32} {i : Int} {E : (Nat → Prop) → State → Prop} {cy : Nat → ClassId} {D : va_G} (C : gC p s m #[Value.ref b] c code 4 RL) (hXX : fxX E D cy) (hEs : E (fun q : Nat => s.heap.size ≤ q) s) (hX : va_X b L xs s s.heap) (hbl : b < s.heap.size) (hL : L ≤ 3072) (hi : 0 ≤ i) (hi6 : i + 6 ≤ L) (kk : lawG p l e s m below meth c b 1570 [(0, .ref b), (1, .ref x0), (2, .ref m0), (3, zv i)] [] (lP cy D (fun q : Nat => s.heap.size ≤ q) s.heap x0 m0)) : lawG p l e s m below meth c b 589 [(0, .ref b), (1, .ref x0), (2, .ref m0), (3, zv i)] [] (lP cy D (fun q : Nat => s.heap.size ≤ q) s.heap x0 m0) := by
  have hE := hXX.1
  have hA : ∀ q : Nat, s.heap.size ≤ q → (fun q : Nat => s.heap.size ≤ q) q := fun _ h => h
  have hbA : ¬ (fun q : Nat => s.heap.size ≤ q) b := Nat.not_le.mpr hbl
  refine l_ex (fun t => ?_)
  refine gq_aln C 1 dL_law_589 rfl rfl rfl ?_
  refine gq_aln C 0 dL_law_590 rfl rfl rfl ?_
  refine gq_iln C 3 dL_law_591 rfl rfl rfl ?_
  refine gq_ic C dL_law_592 rfl ?_
  refine gq_add C dL_law_593 rfl ?_
  refine l_sld C hX hbl hbA hL (by omega) (by omega) dL_law_594 rfl ?_
  refine l_x (ts := [.inl (-2147483648, 2147483647)]) (As := [zv (xs (Int.toNat (i + 1))).toInt]) (rest := []) C hE hEs rfl hA (fun gx ax => kx156 hXX) rfl ⟨by decide, by decide⟩ rfl (fun gs ad => ⟨ok_top _, trivial⟩) (ret_ok rfl) ⟨Nat.le_of_ble_eq_true rfl, Nat.le_of_ble_eq_true rfl⟩ ⟨Nat.le_of_ble_eq_true rfl, Nat.le_of_ble_eq_true rfl⟩ iV_X11_round g_L_69 dL_law_595 rfl rfl (Nat.le_of_ble_eq_true rfl) rfl (fun z595 => ?_)
  refine gq_pop C dL_law_598 rfl rfl ?_
  refine gq_aln C 2 dL_law_599 rfl rfl rfl ?_
  refine gq_aln C 0 dL_law_600 rfl rfl rfl ?_
  refine gq_iln C 3 dL_law_601 rfl rfl rfl ?_
  refine gq_ic C dL_law_602 rfl ?_
  refine gq_add C dL_law_603 rfl ?_
  refine l_sld C hX hbl hbA hL (by omega) (by omega) dL_law_604 rfl ?_
  refine l_m (As := [zv (xs (Int.toNat (i + 1))).toInt]) (rest := []) C hE hEs rfl hA (mc_fxI (fun am => km335 hE) rfl ⟨by decide, by decide, by decide⟩ (fun am ha => (show fx_ty _ am [.inr (.inr 1), .inl (-2147483648, 2147483647)] [.ref m0, zv (xs (Int.toNat (i + 1))).toInt] from oks_ok ⟨rt_ok ⟨0, ha, rfl⟩ (by decide), ok_top _, trivial⟩)) (ret_ok rfl)) ⟨Nat.le_of_ble_eq_true rfl, Nat.le_of_ble_eq_true rfl⟩ ⟨Nat.le_of_ble_eq_true rfl, Nat.le_of_ble_eq_true rfl⟩ iV_X12_round g_L_72 dL_law_605 rfl rfl (Nat.le_of_ble_eq_true rfl) rfl (fun z605 => ?_)
  refine gq_pop C dL_law_608 rfl rfl ?_
  refine gq_goto C 1570 dL_law_609 (by decide) ?_
  exact l_in kk
set_option maxRecDepth 100000 in
set_option maxHeartbeats 4000000 in
theorem law_c14 {p : Program} {l : Launch} {e : Env} {s : State} {m : MethodId} {below : List Frame} {meth : Method} {c : Code} {b L x0 m0 : Nat} {xs : Nat → Int32} {i : Int} {E : (Nat → Prop) → State → Prop} {cy : Nat → ClassId} {D : va_G} (C : gC p s m #[Value.ref b] c code 4 RL) (hXX : fxX E D cy) (hEs : E (fun q : Nat => s.heap.size ≤ q) s) (hX : va_X b L xs s s.heap) (hbl : b < s.heap.size) (hL : L ≤ 3072) (hi : 0 ≤ i) (hi6 : i + 6 ≤ L) (kk : lawG p l e s m below meth c b 1570 [(0, .ref b), (1, .ref x0), (2, .ref m0), (3, zv i)] [] (lP cy D (fun q : Nat => s.heap.size ≤ q) s.heap x0 m0)) : lawG p l e s m below meth c b 612 [(0, .ref b), (1, .ref x0), (2, .ref m0), (3, zv i)] [] (lP cy D (fun q : Nat => s.heap.size ≤ q) s.heap x0 m0) := by
  have hE := hXX.1
  have hA : ∀ q : Nat, s.heap.size ≤ q → (fun q : Nat => s.heap.size ≤ q) q := fun _ h => h
  have hbA : ¬ (fun q : Nat => s.heap.size ≤ q) b := Nat.not_le.mpr hbl
  refine l_ex (fun t => ?_)
  refine gq_aln C 1 dL_law_612 rfl rfl rfl ?_
  refine gq_aln C 0 dL_law_613 rfl rfl rfl ?_
  refine gq_iln C 3 dL_law_614 rfl rfl rfl ?_
  refine gq_ic C dL_law_615 rfl ?_
  refine gq_add C dL_law_616 rfl ?_
  refine l_sld C hX hbl hbA hL (by omega) (by omega) dL_law_617 rfl ?_
  refine l_x (ts := [.inl (-2147483648, 2147483647)]) (As := [zv (xs (Int.toNat (i + 1))).toInt]) (rest := []) C hE hEs rfl hA (fun gx ax => kx158 hXX) rfl ⟨by decide, by decide⟩ rfl (fun gs ad => ⟨ok_top _, trivial⟩) (ret_ok rfl) ⟨Nat.le_of_ble_eq_true rfl, Nat.le_of_ble_eq_true rfl⟩ ⟨Nat.le_of_ble_eq_true rfl, Nat.le_of_ble_eq_true rfl⟩ iV_X11_leave g_L_73 dL_law_618 rfl rfl (Nat.le_of_ble_eq_true rfl) rfl (fun z618 => ?_)
  refine gq_pop C dL_law_621 rfl rfl ?_
  refine gq_aln C 2 dL_law_622 rfl rfl rfl ?_
  refine gq_aln C 0 dL_law_623 rfl rfl rfl ?_
  refine gq_iln C 3 dL_law_624 rfl rfl rfl ?_
  refine gq_ic C dL_law_625 rfl ?_
  refine gq_add C dL_law_626 rfl ?_
  refine l_sld C hX hbl hbA hL (by omega) (by omega) dL_law_627 rfl ?_
  refine l_m (As := [zv (xs (Int.toNat (i + 1))).toInt]) (rest := []) C hE hEs rfl hA (mc_fxI (fun am => km336_I hE) rfl ⟨by decide, by decide, by decide⟩ (fun am ha => (show fx_ty _ am [.inr (.inr 1), .inl (-2147483648, 2147483647)] [.ref m0, zv (xs (Int.toNat (i + 1))).toInt] from oks_ok ⟨rt_ok ⟨0, ha, rfl⟩ (by decide), ok_top _, trivial⟩)) (ret_ok rfl)) ⟨Nat.le_of_ble_eq_true rfl, Nat.le_of_ble_eq_true rfl⟩ ⟨Nat.le_of_ble_eq_true rfl, Nat.le_of_ble_eq_true rfl⟩ iV_X12_leave g_L_76 dL_law_628 rfl rfl (Nat.le_of_ble_eq_true rfl) rfl (fun z628 => ?_)
  refine gq_pop C dL_law_631 rfl rfl ?_
  refine gq_goto C 1570 dL_law_632 (by decide) ?_
  exact l_in kk
set_option maxRecDepth 100000 in
set_option maxHeartbeats 4000000 in
theorem law_c15 {p : Program} {l : Launch} {e : Env} {s : State} {m : MethodId} {below : List Frame} {meth : Method} {c : Code} {b L x0 m0 : Nat} {xs : Nat → Int32} {i : Int} {E : (Nat → Prop) → State → Prop} {cy : Nat → ClassId} {D : va_G} (C : gC p s m #[Value.ref b] c code 4 RL) (hXX : fxX E D cy) (hEs : E (fun q : Nat => s.heap.size ≤ q) s) (hX : va_X b L xs s s.heap) (hbl : b < s.heap.size) (hL : L ≤ 3072) (hi : 0 ≤ i) (hi6 : i + 6 ≤ L) (kk : lawG p l e s m below meth c b 1570 [(0, .ref b), (1, .ref x0), (2, .ref m0), (3, zv i)] [] (lP cy D (fun q : Nat => s.heap.size ≤ q) s.heap x0 m0)) : lawG p l e s m below meth c b 635 [(0, .ref b), (1, .ref x0), (2, .ref m0), (3, zv i)] [] (lP cy D (fun q : Nat => s.heap.size ≤ q) s.heap x0 m0) := by
  have hE := hXX.1
  have hA : ∀ q : Nat, s.heap.size ≤ q → (fun q : Nat => s.heap.size ≤ q) q := fun _ h => h
  have hbA : ¬ (fun q : Nat => s.heap.size ≤ q) b := Nat.not_le.mpr hbl
  refine l_ex (fun t => ?_)
  refine gq_aln C 1 dL_law_635 rfl rfl rfl ?_
  refine gq_aln C 0 dL_law_636 rfl rfl rfl ?_
  refine gq_iln C 3 dL_law_637 rfl rfl rfl ?_
  refine gq_ic C dL_law_638 rfl ?_
  refine gq_add C dL_law_639 rfl ?_
  refine l_sld C hX hbl hbA hL (by omega) (by omega) dL_law_640 rfl ?_
  refine gq_aln C 0 dL_law_641 rfl rfl rfl ?_
  refine gq_iln C 3 dL_law_642 rfl rfl rfl ?_
  refine gq_ic C dL_law_643 rfl ?_
  refine gq_add C dL_law_644 rfl ?_
  refine l_sld C hX hbl hbA hL (by omega) (by omega) dL_law_645 rfl ?_
  refine l_x (ts := [.inl (-2147483648, 2147483647), .inl (-2147483648, 2147483647)]) (As := [zv (xs (Int.toNat (i + 1))).toInt, zv (xs (Int.toNat (i + 2))).toInt]) (rest := []) C hE hEs rfl hA (fun gx ax => kx161 hXX) rfl ⟨by decide, by decide⟩ rfl (fun gs ad => ⟨ok_top _, ok_top _, trivial⟩) (ret_ok rfl) ⟨Nat.le_of_ble_eq_true rfl, Nat.le_of_ble_eq_true rfl⟩ ⟨Nat.le_of_ble_eq_true rfl, Nat.le_of_ble_eq_true rfl⟩ iV_X11_put g_L_77 dL_law_646 rfl rfl (Nat.le_of_ble_eq_true rfl) rfl (fun z646 => ?_)
  refine gq_pop C dL_law_649 rfl rfl ?_
  refine gq_aln C 2 dL_law_650 rfl rfl rfl ?_
  refine gq_aln C 0 dL_law_651 rfl rfl rfl ?_
  refine gq_iln C 3 dL_law_652 rfl rfl rfl ?_
  refine gq_ic C dL_law_653 rfl ?_
  refine gq_add C dL_law_654 rfl ?_
  refine l_sld C hX hbl hbA hL (by omega) (by omega) dL_law_655 rfl ?_
  refine gq_aln C 0 dL_law_656 rfl rfl rfl ?_
  refine gq_iln C 3 dL_law_657 rfl rfl rfl ?_
  refine gq_ic C dL_law_658 rfl ?_
  refine gq_add C dL_law_659 rfl ?_
  refine l_sld C hX hbl hbA hL (by omega) (by omega) dL_law_660 rfl ?_
  refine l_m (As := [zv (xs (Int.toNat (i + 1))).toInt, zv (xs (Int.toNat (i + 2))).toInt]) (rest := []) C hE hEs rfl hA (mc_fxI (fun am => km337_I hE) rfl ⟨by decide, by decide, by decide⟩ (fun am ha => (show fx_ty _ am [.inr (.inr 1), .inl (-2147483648, 2147483647), .inl (-2147483648, 2147483647)] [.ref m0, zv (xs (Int.toNat (i + 1))).toInt, zv (xs (Int.toNat (i + 2))).toInt] from oks_ok ⟨rt_ok ⟨0, ha, rfl⟩ (by decide), ok_top _, ok_top _, trivial⟩)) (ret_ok rfl)) ⟨Nat.le_of_ble_eq_true rfl, Nat.le_of_ble_eq_true rfl⟩ ⟨Nat.le_of_ble_eq_true rfl, Nat.le_of_ble_eq_true rfl⟩ iV_X12_put g_L_80 dL_law_661 rfl rfl (Nat.le_of_ble_eq_true rfl) rfl (fun z661 => ?_)
  refine gq_pop C dL_law_664 rfl rfl ?_
  refine gq_goto C 1570 dL_law_665 (by decide) ?_
  exact l_in kk
set_option maxRecDepth 100000 in
set_option maxHeartbeats 4000000 in
theorem law_c16 {p : Program} {l : Launch} {e : Env} {s : State} {m : MethodId} {below : List Frame} {meth : Method} {c : Code} {b L x0 m0 : Nat} {xs : Nat → Int32} {i : Int} {E : (Nat → Prop) → State → Prop} {cy : Nat → ClassId} {D : va_G} (C : gC p s m #[Value.ref b] c code 4 RL) (hXX : fxX E D cy) (hEs : E (fun q : Nat => s.heap.size ≤ q) s) (hX : va_X b L xs s s.heap) (hbl : b < s.heap.size) (hL : L ≤ 3072) (hi : 0 ≤ i) (hi6 : i + 6 ≤ L) (kk : lawG p l e s m below meth c b 1570 [(0, .ref b), (1, .ref x0), (2, .ref m0), (3, zv i)] [] (lP cy D (fun q : Nat => s.heap.size ≤ q) s.heap x0 m0)) : lawG p l e s m below meth c b 668 [(0, .ref b), (1, .ref x0), (2, .ref m0), (3, zv i)] [] (lP cy D (fun q : Nat => s.heap.size ≤ q) s.heap x0 m0) := by
  have hE := hXX.1
  have hA : ∀ q : Nat, s.heap.size ≤ q → (fun q : Nat => s.heap.size ≤ q) q := fun _ h => h
  have hbA : ¬ (fun q : Nat => s.heap.size ≤ q) b := Nat.not_le.mpr hbl
  refine l_ex (fun t => ?_)
  refine gq_aln C 1 dL_law_668 rfl rfl rfl ?_
  refine gq_aln C 0 dL_law_669 rfl rfl rfl ?_
  refine gq_iln C 3 dL_law_670 rfl rfl rfl ?_
  refine gq_ic C dL_law_671 rfl ?_
  refine gq_add C dL_law_672 rfl ?_
  refine l_sld C hX hbl hbA hL (by omega) (by omega) dL_law_673 rfl ?_
  refine gq_aln C 0 dL_law_674 rfl rfl rfl ?_
  refine gq_iln C 3 dL_law_675 rfl rfl rfl ?_
  refine gq_ic C dL_law_676 rfl ?_
  refine gq_add C dL_law_677 rfl ?_
  refine l_sld C hX hbl hbA hL (by omega) (by omega) dL_law_678 rfl ?_
  refine l_x (ts := [.inl (-2147483648, 2147483647), .inl (-2147483648, 2147483647)]) (As := [zv (xs (Int.toNat (i + 1))).toInt, zv (xs (Int.toNat (i + 2))).toInt]) (rest := []) C hE hEs rfl hA (fun gx ax => kx164 hXX) rfl ⟨by decide, by decide⟩ rfl (fun gs ad => ⟨ok_top _, ok_top _, trivial⟩) (ret_ok rfl) ⟨Nat.le_of_ble_eq_true rfl, Nat.le_of_ble_eq_true rfl⟩ ⟨Nat.le_of_ble_eq_true rfl, Nat.le_of_ble_eq_true rfl⟩ iV_X11_change g_L_81 dL_law_679 rfl rfl (Nat.le_of_ble_eq_true rfl) rfl (fun z679 => ?_)
  refine gq_pop C dL_law_682 rfl rfl ?_
  refine gq_aln C 2 dL_law_683 rfl rfl rfl ?_
  refine gq_aln C 0 dL_law_684 rfl rfl rfl ?_
  refine gq_iln C 3 dL_law_685 rfl rfl rfl ?_
  refine gq_ic C dL_law_686 rfl ?_
  refine gq_add C dL_law_687 rfl ?_
  refine l_sld C hX hbl hbA hL (by omega) (by omega) dL_law_688 rfl ?_
  refine gq_aln C 0 dL_law_689 rfl rfl rfl ?_
  refine gq_iln C 3 dL_law_690 rfl rfl rfl ?_
  refine gq_ic C dL_law_691 rfl ?_
  refine gq_add C dL_law_692 rfl ?_
  refine l_sld C hX hbl hbA hL (by omega) (by omega) dL_law_693 rfl ?_
  refine l_m (As := [zv (xs (Int.toNat (i + 1))).toInt, zv (xs (Int.toNat (i + 2))).toInt]) (rest := []) C hE hEs rfl hA (mc_fxI (fun am => km338_I hE) rfl ⟨by decide, by decide, by decide⟩ (fun am ha => (show fx_ty _ am [.inr (.inr 1), .inl (-2147483648, 2147483647), .inl (-2147483648, 2147483647)] [.ref m0, zv (xs (Int.toNat (i + 1))).toInt, zv (xs (Int.toNat (i + 2))).toInt] from oks_ok ⟨rt_ok ⟨0, ha, rfl⟩ (by decide), ok_top _, ok_top _, trivial⟩)) (ret_ok rfl)) ⟨Nat.le_of_ble_eq_true rfl, Nat.le_of_ble_eq_true rfl⟩ ⟨Nat.le_of_ble_eq_true rfl, Nat.le_of_ble_eq_true rfl⟩ iV_X12_change g_L_84 dL_law_694 rfl rfl (Nat.le_of_ble_eq_true rfl) rfl (fun z694 => ?_)
  refine gq_pop C dL_law_697 rfl rfl ?_
  refine gq_goto C 1570 dL_law_698 (by decide) ?_
  exact l_in kk
set_option maxRecDepth 100000 in
set_option maxHeartbeats 4000000 in
theorem law_c17 {p : Program} {l : Launch} {e : Env} {s : State} {m : MethodId} {below : List Frame} {meth : Method} {c : Code} {b L x0 m0 : Nat} {xs : Nat → Int32} {i : Int} {E : (Nat → Prop) → State → Prop} {cy : Nat → ClassId} {D : va_G} (C : gC p s m #[Value.ref b] c code 4 RL) (hXX : fxX E D cy) (hEs : E (fun q : Nat => s.heap.size ≤ q) s) (hX : va_X b L xs s s.heap) (hbl : b < s.heap.size) (hL : L ≤ 3072) (hi : 0 ≤ i) (hi6 : i + 6 ≤ L) (kk : lawG p l e s m below meth c b 1570 [(0, .ref b), (1, .ref x0), (2, .ref m0), (3, zv i)] [] (lP cy D (fun q : Nat => s.heap.size ≤ q) s.heap x0 m0)) : lawG p l e s m below meth c b 701 [(0, .ref b), (1, .ref x0), (2, .ref m0), (3, zv i)] [] (lP cy D (fun q : Nat => s.heap.size ≤ q) s.heap x0 m0) := by
  have hE := hXX.1
  have hA : ∀ q : Nat, s.heap.size ≤ q → (fun q : Nat => s.heap.size ≤ q) q := fun _ h => h
  have hbA : ¬ (fun q : Nat => s.heap.size ≤ q) b := Nat.not_le.mpr hbl
  refine l_ex (fun t => ?_)
  refine gq_aln C 1 dL_law_701 rfl rfl rfl ?_
  refine l_x (ts := []) (As := []) (rest := []) C hE hEs rfl hA (fun gx ax => kx167 hXX) rfl ⟨by decide, by decide⟩ rfl (fun gs ad => trivial) (ret_ok rfl) ⟨Nat.le_of_ble_eq_true rfl, Nat.le_of_ble_eq_true rfl⟩ ⟨Nat.le_of_ble_eq_true rfl, Nat.le_of_ble_eq_true rfl⟩ iV_X11_undo g_L_85 dL_law_702 rfl rfl (Nat.le_of_ble_eq_true rfl) rfl (fun z702 => ?_)
  refine gq_pop C dL_law_705 rfl rfl ?_
  refine gq_aln C 2 dL_law_706 rfl rfl rfl ?_
  refine l_m (As := []) (rest := []) C hE hEs rfl hA (mc_h (fun am ha => h_undo hE m0 ha) (fun wm hJ => ⟨rfl, hJ.1⟩) (fun am wm wm1 rv ha hw hw1 hJ hp => by obtain ⟨sm, ⟨z, rfl, -⟩, -, hAU⟩ := hp; exact ⟨JM_sm hw hw1 sm hAU (by decide +kernel) hJ, sm_f hw hw1 sm (by decide), z, rfl⟩)) ⟨Nat.le_of_ble_eq_true rfl, Nat.le_of_ble_eq_true rfl⟩ ⟨Nat.le_of_ble_eq_true rfl, Nat.le_of_ble_eq_true rfl⟩ iV_X12_undo g_L_89 dL_law_707 rfl rfl (Nat.le_of_ble_eq_true rfl) rfl (fun z707 => ?_)
  refine gq_pop C dL_law_710 rfl rfl ?_
  refine gq_goto C 1570 dL_law_711 (by decide) ?_
  exact l_in kk
set_option maxRecDepth 100000 in
set_option maxHeartbeats 4000000 in
theorem law_c18 {p : Program} {l : Launch} {e : Env} {s : State} {m : MethodId} {below : List Frame} {meth : Method} {c : Code} {b L x0 m0 : Nat} {xs : Nat → Int32} {i : Int} {E : (Nat → Prop) → State → Prop} {cy : Nat → ClassId} {D : va_G} (C : gC p s m #[Value.ref b] c code 4 RL) (hXX : fxX E D cy) (hEs : E (fun q : Nat => s.heap.size ≤ q) s) (hX : va_X b L xs s s.heap) (hbl : b < s.heap.size) (hL : L ≤ 3072) (hi : 0 ≤ i) (hi6 : i + 6 ≤ L) (kk : lawG p l e s m below meth c b 1570 [(0, .ref b), (1, .ref x0), (2, .ref m0), (3, zv i)] [] (lP cy D (fun q : Nat => s.heap.size ≤ q) s.heap x0 m0)) : lawG p l e s m below meth c b 714 [(0, .ref b), (1, .ref x0), (2, .ref m0), (3, zv i)] [] (lP cy D (fun q : Nat => s.heap.size ≤ q) s.heap x0 m0) := by
  have hE := hXX.1
  have hA : ∀ q : Nat, s.heap.size ≤ q → (fun q : Nat => s.heap.size ≤ q) q := fun _ h => h
  have hbA : ¬ (fun q : Nat => s.heap.size ≤ q) b := Nat.not_le.mpr hbl
  refine l_ex (fun t => ?_)
  refine gq_aln C 1 dL_law_714 rfl rfl rfl ?_
  refine l_x (ts := []) (As := []) (rest := []) C hE hEs rfl hA (fun gx ax => kx169 hXX) rfl ⟨by decide, by decide⟩ rfl (fun gs ad => trivial) (ret_ok rfl) ⟨Nat.le_of_ble_eq_true rfl, Nat.le_of_ble_eq_true rfl⟩ ⟨Nat.le_of_ble_eq_true rfl, Nat.le_of_ble_eq_true rfl⟩ iV_X11_redo g_L_90 dL_law_715 rfl rfl (Nat.le_of_ble_eq_true rfl) rfl (fun z715 => ?_)
  refine gq_pop C dL_law_718 rfl rfl ?_
  refine gq_aln C 2 dL_law_719 rfl rfl rfl ?_
  refine l_m (As := []) (rest := []) C hE hEs rfl hA (mc_h (fun am ha => h_redo hE m0 ha) (fun wm hJ => ⟨rfl, hJ.1⟩) (fun am wm wm1 rv ha hw hw1 hJ hp => by obtain ⟨sm, ⟨z, rfl, -⟩, -, hAU⟩ := hp; exact ⟨JM_sm hw hw1 sm hAU (by decide +kernel) hJ, sm_f hw hw1 sm (by decide), z, rfl⟩)) ⟨Nat.le_of_ble_eq_true rfl, Nat.le_of_ble_eq_true rfl⟩ ⟨Nat.le_of_ble_eq_true rfl, Nat.le_of_ble_eq_true rfl⟩ iV_X12_redo g_L_93 dL_law_720 rfl rfl (Nat.le_of_ble_eq_true rfl) rfl (fun z720 => ?_)
  refine gq_pop C dL_law_723 rfl rfl ?_
  refine gq_goto C 1570 dL_law_724 (by decide) ?_
  exact l_in kk
set_option maxRecDepth 100000 in
set_option maxHeartbeats 4000000 in
theorem law_c19 {p : Program} {l : Launch} {e : Env} {s : State} {m : MethodId} {below : List Frame} {meth : Method} {c : Code} {b L x0 m0 : Nat} {xs : Nat → Int32} {i : Int} {E : (Nat → Prop) → State → Prop} {cy : Nat → ClassId} {D : va_G} (C : gC p s m #[Value.ref b] c code 4 RL) (hXX : fxX E D cy) (hEs : E (fun q : Nat => s.heap.size ≤ q) s) (hX : va_X b L xs s s.heap) (hbl : b < s.heap.size) (hL : L ≤ 3072) (hi : 0 ≤ i) (hi6 : i + 6 ≤ L) (kk : lawG p l e s m below meth c b 1570 [(0, .ref b), (1, .ref x0), (2, .ref m0), (3, zv i)] [] (lP cy D (fun q : Nat => s.heap.size ≤ q) s.heap x0 m0)) : lawG p l e s m below meth c b 727 [(0, .ref b), (1, .ref x0), (2, .ref m0), (3, zv i)] [] (lP cy D (fun q : Nat => s.heap.size ≤ q) s.heap x0 m0) := by
  have hE := hXX.1
  have hA : ∀ q : Nat, s.heap.size ≤ q → (fun q : Nat => s.heap.size ≤ q) q := fun _ h => h
  have hbA : ¬ (fun q : Nat => s.heap.size ≤ q) b := Nat.not_le.mpr hbl
  refine l_ex (fun t => ?_)
  refine gq_aln C 1 dL_law_727 rfl rfl rfl ?_
  refine gq_aln C 0 dL_law_728 rfl rfl rfl ?_
  refine gq_iln C 3 dL_law_729 rfl rfl rfl ?_
  refine gq_ic C dL_law_730 rfl ?_
  refine gq_add C dL_law_731 rfl ?_
  refine l_sld C hX hbl hbA hL (by omega) (by omega) dL_law_732 rfl ?_
  refine gq_aln C 0 dL_law_733 rfl rfl rfl ?_
  refine gq_iln C 3 dL_law_734 rfl rfl rfl ?_
  refine gq_ic C dL_law_735 rfl ?_
  refine gq_add C dL_law_736 rfl ?_
  refine l_sld C hX hbl hbA hL (by omega) (by omega) dL_law_737 rfl ?_
  refine l_x (ts := [.inl (-2147483648, 2147483647), .inl (-2147483648, 2147483647)]) (As := [zv (xs (Int.toNat (i + 1))).toInt, zv (xs (Int.toNat (i + 2))).toInt]) (rest := []) C hE hEs rfl hA (fun gx ax => kx175 hXX) rfl ⟨by decide, by decide⟩ rfl (fun gs ad => ⟨ok_top _, ok_top _, trivial⟩) (ret_ok rfl) ⟨Nat.le_of_ble_eq_true rfl, Nat.le_of_ble_eq_true rfl⟩ ⟨Nat.le_of_ble_eq_true rfl, Nat.le_of_ble_eq_true rfl⟩ iV_X11_ways g_L_94 dL_law_738 rfl rfl (Nat.le_of_ble_eq_true rfl) rfl (fun z738 => ?_)
  refine gq_pop C dL_law_741 rfl rfl ?_
  refine gq_aln C 2 dL_law_742 rfl rfl rfl ?_
  refine gq_aln C 0 dL_law_743 rfl rfl rfl ?_
  refine gq_iln C 3 dL_law_744 rfl rfl rfl ?_
  refine gq_ic C dL_law_745 rfl ?_
  refine gq_add C dL_law_746 rfl ?_
  refine l_sld C hX hbl hbA hL (by omega) (by omega) dL_law_747 rfl ?_
  refine gq_aln C 0 dL_law_748 rfl rfl rfl ?_
  refine gq_iln C 3 dL_law_749 rfl rfl rfl ?_
  refine gq_ic C dL_law_750 rfl ?_
  refine gq_add C dL_law_751 rfl ?_
  refine l_sld C hX hbl hbA hL (by omega) (by omega) dL_law_752 rfl ?_
  refine l_m (As := [zv (xs (Int.toNat (i + 1))).toInt, zv (xs (Int.toNat (i + 2))).toInt]) (rest := []) C hE hEs rfl hA (mc_fx (fun am => km44 hE) rfl (by decide +kernel) ⟨by decide, by decide, by decide⟩ (fun am ha => (show fx_ty _ am [.inr (.inr 1), .inl (-2147483648, 2147483647), .inl (-2147483648, 2147483647)] [.ref m0, zv (xs (Int.toNat (i + 1))).toInt, zv (xs (Int.toNat (i + 2))).toInt] from oks_ok ⟨rt_ok ⟨0, ha, rfl⟩ (by decide), ok_top _, ok_top _, trivial⟩)) (ret_ok rfl)) ⟨Nat.le_of_ble_eq_true rfl, Nat.le_of_ble_eq_true rfl⟩ ⟨Nat.le_of_ble_eq_true rfl, Nat.le_of_ble_eq_true rfl⟩ iV_X12_ways g_L_97 dL_law_753 rfl rfl (Nat.le_of_ble_eq_true rfl) rfl (fun z753 => ?_)
  refine gq_pop C dL_law_756 rfl rfl ?_
  refine gq_goto C 1570 dL_law_757 (by decide) ?_
  exact l_in kk
set_option maxRecDepth 100000 in
set_option maxHeartbeats 4000000 in
theorem law_c20 {p : Program} {l : Launch} {e : Env} {s : State} {m : MethodId} {below : List Frame} {meth : Method} {c : Code} {b L x0 m0 : Nat} {xs : Nat → Int32} {i : Int} {E : (Nat → Prop) → State → Prop} {cy : Nat → ClassId} {D : va_G} (C : gC p s m #[Value.ref b] c code 4 RL) (hXX : fxX E D cy) (hEs : E (fun q : Nat => s.heap.size ≤ q) s) (hX : va_X b L xs s s.heap) (hbl : b < s.heap.size) (hL : L ≤ 3072) (hi : 0 ≤ i) (hi6 : i + 6 ≤ L) (kk : lawG p l e s m below meth c b 1570 [(0, .ref b), (1, .ref x0), (2, .ref m0), (3, zv i)] [] (lP cy D (fun q : Nat => s.heap.size ≤ q) s.heap x0 m0)) : lawG p l e s m below meth c b 760 [(0, .ref b), (1, .ref x0), (2, .ref m0), (3, zv i)] [] (lP cy D (fun q : Nat => s.heap.size ≤ q) s.heap x0 m0) := by
  have hE := hXX.1
  have hA : ∀ q : Nat, s.heap.size ≤ q → (fun q : Nat => s.heap.size ≤ q) q := fun _ h => h
  have hbA : ¬ (fun q : Nat => s.heap.size ≤ q) b := Nat.not_le.mpr hbl
  refine l_ex (fun t => ?_)
  refine gq_aln C 1 dL_law_760 rfl rfl rfl ?_
  refine gq_aln C 0 dL_law_761 rfl rfl rfl ?_
  refine gq_iln C 3 dL_law_762 rfl rfl rfl ?_
  refine gq_ic C dL_law_763 rfl ?_
  refine gq_add C dL_law_764 rfl ?_
  refine l_sld C hX hbl hbA hL (by omega) (by omega) dL_law_765 rfl ?_
  refine gq_aln C 0 dL_law_766 rfl rfl rfl ?_
  refine gq_iln C 3 dL_law_767 rfl rfl rfl ?_
  refine gq_ic C dL_law_768 rfl ?_
  refine gq_add C dL_law_769 rfl ?_
  refine l_sld C hX hbl hbA hL (by omega) (by omega) dL_law_770 rfl ?_
  refine l_x (ts := [.inl (-2147483648, 2147483647), .inl (-2147483648, 2147483647)]) (As := [zv (xs (Int.toNat (i + 1))).toInt, zv (xs (Int.toNat (i + 2))).toInt]) (rest := []) C hE hEs rfl hA (fun gx ax => kx180 hXX) rfl ⟨by decide, by decide⟩ rfl (fun gs ad => ⟨ok_top _, ok_top _, trivial⟩) (ret_ok rfl) ⟨Nat.le_of_ble_eq_true rfl, Nat.le_of_ble_eq_true rfl⟩ ⟨Nat.le_of_ble_eq_true rfl, Nat.le_of_ble_eq_true rfl⟩ iV_X11_odds g_L_98 dL_law_771 rfl rfl (Nat.le_of_ble_eq_true rfl) rfl (fun z771 => ?_)
  refine gq_pop C dL_law_774 rfl rfl ?_
  refine gq_aln C 2 dL_law_775 rfl rfl rfl ?_
  refine gq_aln C 0 dL_law_776 rfl rfl rfl ?_
  refine gq_iln C 3 dL_law_777 rfl rfl rfl ?_
  refine gq_ic C dL_law_778 rfl ?_
  refine gq_add C dL_law_779 rfl ?_
  refine l_sld C hX hbl hbA hL (by omega) (by omega) dL_law_780 rfl ?_
  refine gq_aln C 0 dL_law_781 rfl rfl rfl ?_
  refine gq_iln C 3 dL_law_782 rfl rfl rfl ?_
  refine gq_ic C dL_law_783 rfl ?_
  refine gq_add C dL_law_784 rfl ?_
  refine l_sld C hX hbl hbA hL (by omega) (by omega) dL_law_785 rfl ?_
  refine l_m (As := [zv (xs (Int.toNat (i + 1))).toInt, zv (xs (Int.toNat (i + 2))).toInt]) (rest := []) C hE hEs rfl hA (mc_fx (fun am => km318 hE) rfl (by decide +kernel) ⟨by decide, by decide, by decide⟩ (fun am ha => (show fx_ty _ am [.inr (.inr 1), .inl (-2147483648, 2147483647), .inl (-2147483648, 2147483647)] [.ref m0, zv (xs (Int.toNat (i + 1))).toInt, zv (xs (Int.toNat (i + 2))).toInt] from oks_ok ⟨rt_ok ⟨0, ha, rfl⟩ (by decide), ok_top _, ok_top _, trivial⟩)) (ret_ok rfl)) ⟨Nat.le_of_ble_eq_true rfl, Nat.le_of_ble_eq_true rfl⟩ ⟨Nat.le_of_ble_eq_true rfl, Nat.le_of_ble_eq_true rfl⟩ iV_X12_odds g_L_101 dL_law_786 rfl rfl (Nat.le_of_ble_eq_true rfl) rfl (fun z786 => ?_)
  refine gq_pop C dL_law_789 rfl rfl ?_
  refine gq_goto C 1570 dL_law_790 (by decide) ?_
  exact l_in kk
set_option maxRecDepth 100000 in
set_option maxHeartbeats 4000000 in
theorem law_c21 {p : Program} {l : Launch} {e : Env} {s : State} {m : MethodId} {below : List Frame} {meth : Method} {c : Code} {b L x0 m0 : Nat} {xs : Nat → Int32} {i : Int} {E : (Nat → Prop) → State → Prop} {cy : Nat → ClassId} {D : va_G} (C : gC p s m #[Value.ref b] c code 4 RL) (hXX : fxX E D cy) (hEs : E (fun q : Nat => s.heap.size ≤ q) s) (hX : va_X b L xs s s.heap) (hbl : b < s.heap.size) (hL : L ≤ 3072) (hi : 0 ≤ i) (hi6 : i + 6 ≤ L) (kk : lawG p l e s m below meth c b 1570 [(0, .ref b), (1, .ref x0), (2, .ref m0), (3, zv i)] [] (lP cy D (fun q : Nat => s.heap.size ≤ q) s.heap x0 m0)) : lawG p l e s m below meth c b 793 [(0, .ref b), (1, .ref x0), (2, .ref m0), (3, zv i)] [] (lP cy D (fun q : Nat => s.heap.size ≤ q) s.heap x0 m0) := by
  have hE := hXX.1
  have hA : ∀ q : Nat, s.heap.size ≤ q → (fun q : Nat => s.heap.size ≤ q) q := fun _ h => h
  have hbA : ¬ (fun q : Nat => s.heap.size ≤ q) b := Nat.not_le.mpr hbl
  refine l_ex (fun t => ?_)
  refine gq_aln C 1 dL_law_793 rfl rfl rfl ?_
  refine gq_aln C 0 dL_law_794 rfl rfl rfl ?_
  refine gq_iln C 3 dL_law_795 rfl rfl rfl ?_
  refine gq_ic C dL_law_796 rfl ?_
  refine gq_add C dL_law_797 rfl ?_
  refine l_sld C hX hbl hbA hL (by omega) (by omega) dL_law_798 rfl ?_
  refine gq_aln C 0 dL_law_799 rfl rfl rfl ?_
  refine gq_iln C 3 dL_law_800 rfl rfl rfl ?_
  refine gq_ic C dL_law_801 rfl ?_
  refine gq_add C dL_law_802 rfl ?_
  refine l_sld C hX hbl hbA hL (by omega) (by omega) dL_law_803 rfl ?_
  refine l_x (ts := [.inl (-2147483648, 2147483647), .inl (-2147483648, 2147483647)]) (As := [zv (xs (Int.toNat (i + 1))).toInt, zv (xs (Int.toNat (i + 2))).toInt]) (rest := []) C hE hEs rfl hA (fun gx ax => kx195 hXX) rfl ⟨by decide, by decide⟩ rfl (fun gs ad => ⟨ok_top _, ok_top _, trivial⟩) (ret_ok rfl) ⟨Nat.le_of_ble_eq_true rfl, Nat.le_of_ble_eq_true rfl⟩ ⟨Nat.le_of_ble_eq_true rfl, Nat.le_of_ble_eq_true rfl⟩ iV_X11_source g_L_102 dL_law_804 rfl rfl (Nat.le_of_ble_eq_true rfl) rfl (fun z804 => ?_)
  refine gq_pop C dL_law_807 rfl rfl ?_
  refine gq_aln C 2 dL_law_808 rfl rfl rfl ?_
  refine gq_aln C 0 dL_law_809 rfl rfl rfl ?_
  refine gq_iln C 3 dL_law_810 rfl rfl rfl ?_
  refine gq_ic C dL_law_811 rfl ?_
  refine gq_add C dL_law_812 rfl ?_
  refine l_sld C hX hbl hbA hL (by omega) (by omega) dL_law_813 rfl ?_
  refine gq_aln C 0 dL_law_814 rfl rfl rfl ?_
  refine gq_iln C 3 dL_law_815 rfl rfl rfl ?_
  refine gq_ic C dL_law_816 rfl ?_
  refine gq_add C dL_law_817 rfl ?_
  refine l_sld C hX hbl hbA hL (by omega) (by omega) dL_law_818 rfl ?_
  refine l_m (As := [zv (xs (Int.toNat (i + 1))).toInt, zv (xs (Int.toNat (i + 2))).toInt]) (rest := []) C hE hEs rfl hA (mc_fxI (fun am => km319 hE) rfl ⟨by decide, by decide, by decide⟩ (fun am ha => (show fx_ty _ am [.inr (.inr 1), .inl (-2147483648, 2147483647), .inl (-2147483648, 2147483647)] [.ref m0, zv (xs (Int.toNat (i + 1))).toInt, zv (xs (Int.toNat (i + 2))).toInt] from oks_ok ⟨rt_ok ⟨0, ha, rfl⟩ (by decide), ok_top _, ok_top _, trivial⟩)) (ret_ok rfl)) ⟨Nat.le_of_ble_eq_true rfl, Nat.le_of_ble_eq_true rfl⟩ ⟨Nat.le_of_ble_eq_true rfl, Nat.le_of_ble_eq_true rfl⟩ iV_X12_source g_L_105 dL_law_819 rfl rfl (Nat.le_of_ble_eq_true rfl) rfl (fun z819 => ?_)
  refine gq_pop C dL_law_822 rfl rfl ?_
  refine gq_goto C 1570 dL_law_823 (by decide) ?_
  exact l_in kk
set_option maxRecDepth 100000 in
set_option maxHeartbeats 4000000 in
theorem law_c22 {p : Program} {l : Launch} {e : Env} {s : State} {m : MethodId} {below : List Frame} {meth : Method} {c : Code} {b L x0 m0 : Nat} {xs : Nat → Int32} {i : Int} {E : (Nat → Prop) → State → Prop} {cy : Nat → ClassId} {D : va_G} (C : gC p s m #[Value.ref b] c code 4 RL) (hXX : fxX E D cy) (hEs : E (fun q : Nat => s.heap.size ≤ q) s) (hX : va_X b L xs s s.heap) (hbl : b < s.heap.size) (hL : L ≤ 3072) (hi : 0 ≤ i) (hi6 : i + 6 ≤ L) (kk : lawG p l e s m below meth c b 1570 [(0, .ref b), (1, .ref x0), (2, .ref m0), (3, zv i)] [] (lP cy D (fun q : Nat => s.heap.size ≤ q) s.heap x0 m0)) : lawG p l e s m below meth c b 826 [(0, .ref b), (1, .ref x0), (2, .ref m0), (3, zv i)] [] (lP cy D (fun q : Nat => s.heap.size ≤ q) s.heap x0 m0) := by
  have hE := hXX.1
  have hA : ∀ q : Nat, s.heap.size ≤ q → (fun q : Nat => s.heap.size ≤ q) q := fun _ h => h
  have hbA : ¬ (fun q : Nat => s.heap.size ≤ q) b := Nat.not_le.mpr hbl
  refine l_ex (fun t => ?_)
  refine gq_aln C 1 dL_law_826 rfl rfl rfl ?_
  refine gq_aln C 0 dL_law_827 rfl rfl rfl ?_
  refine gq_iln C 3 dL_law_828 rfl rfl rfl ?_
  refine gq_ic C dL_law_829 rfl ?_
  refine gq_add C dL_law_830 rfl ?_
  refine l_sld C hX hbl hbA hL (by omega) (by omega) dL_law_831 rfl ?_
  refine gq_aln C 0 dL_law_832 rfl rfl rfl ?_
  refine gq_iln C 3 dL_law_833 rfl rfl rfl ?_
  refine gq_ic C dL_law_834 rfl ?_
  refine gq_add C dL_law_835 rfl ?_
  refine l_sld C hX hbl hbA hL (by omega) (by omega) dL_law_836 rfl ?_
  refine l_x (ts := [.inl (-2147483648, 2147483647), .inl (-2147483648, 2147483647)]) (As := [zv (xs (Int.toNat (i + 1))).toInt, zv (xs (Int.toNat (i + 2))).toInt]) (rest := []) C hE hEs rfl hA (fun gx ax => kx197 hXX) rfl ⟨by decide, by decide⟩ rfl (fun gs ad => ⟨ok_top _, ok_top _, trivial⟩) (ret_ok rfl) ⟨Nat.le_of_ble_eq_true rfl, Nat.le_of_ble_eq_true rfl⟩ ⟨Nat.le_of_ble_eq_true rfl, Nat.le_of_ble_eq_true rfl⟩ iV_X11_sources g_L_106 dL_law_837 rfl rfl (Nat.le_of_ble_eq_true rfl) rfl (fun z837 => ?_)
  refine gq_pop C dL_law_840 rfl rfl ?_
  refine gq_aln C 2 dL_law_841 rfl rfl rfl ?_
  refine gq_aln C 0 dL_law_842 rfl rfl rfl ?_
  refine gq_iln C 3 dL_law_843 rfl rfl rfl ?_
  refine gq_ic C dL_law_844 rfl ?_
  refine gq_add C dL_law_845 rfl ?_
  refine l_sld C hX hbl hbA hL (by omega) (by omega) dL_law_846 rfl ?_
  refine gq_aln C 0 dL_law_847 rfl rfl rfl ?_
  refine gq_iln C 3 dL_law_848 rfl rfl rfl ?_
  refine gq_ic C dL_law_849 rfl ?_
  refine gq_add C dL_law_850 rfl ?_
  refine l_sld C hX hbl hbA hL (by omega) (by omega) dL_law_851 rfl ?_
  refine l_m (As := [zv (xs (Int.toNat (i + 1))).toInt, zv (xs (Int.toNat (i + 2))).toInt]) (rest := []) C hE hEs rfl hA (mc_fx (fun am => km50 hE) rfl (by decide +kernel) ⟨by decide, by decide, by decide⟩ (fun am ha => (show fx_ty _ am [.inr (.inr 1), .inl (-2147483648, 2147483647), .inl (-2147483648, 2147483647)] [.ref m0, zv (xs (Int.toNat (i + 1))).toInt, zv (xs (Int.toNat (i + 2))).toInt] from oks_ok ⟨rt_ok ⟨0, ha, rfl⟩ (by decide), ok_top _, ok_top _, trivial⟩)) (ret_ok rfl)) ⟨Nat.le_of_ble_eq_true rfl, Nat.le_of_ble_eq_true rfl⟩ ⟨Nat.le_of_ble_eq_true rfl, Nat.le_of_ble_eq_true rfl⟩ iV_X12_sources g_L_109 dL_law_852 rfl rfl (Nat.le_of_ble_eq_true rfl) rfl (fun z852 => ?_)
  refine gq_pop C dL_law_855 rfl rfl ?_
  refine gq_goto C 1570 dL_law_856 (by decide) ?_
  exact l_in kk
set_option maxRecDepth 100000 in
set_option maxHeartbeats 4000000 in
theorem law_c23 {p : Program} {l : Launch} {e : Env} {s : State} {m : MethodId} {below : List Frame} {meth : Method} {c : Code} {b L x0 m0 : Nat} {xs : Nat → Int32} {i : Int} {E : (Nat → Prop) → State → Prop} {cy : Nat → ClassId} {D : va_G} (C : gC p s m #[Value.ref b] c code 4 RL) (hXX : fxX E D cy) (hEs : E (fun q : Nat => s.heap.size ≤ q) s) (hX : va_X b L xs s s.heap) (hbl : b < s.heap.size) (hL : L ≤ 3072) (hi : 0 ≤ i) (hi6 : i + 6 ≤ L) (kk : lawG p l e s m below meth c b 1570 [(0, .ref b), (1, .ref x0), (2, .ref m0), (3, zv i)] [] (lP cy D (fun q : Nat => s.heap.size ≤ q) s.heap x0 m0)) : lawG p l e s m below meth c b 859 [(0, .ref b), (1, .ref x0), (2, .ref m0), (3, zv i)] [] (lP cy D (fun q : Nat => s.heap.size ≤ q) s.heap x0 m0) := by
  have hE := hXX.1
  have hA : ∀ q : Nat, s.heap.size ≤ q → (fun q : Nat => s.heap.size ≤ q) q := fun _ h => h
  have hbA : ¬ (fun q : Nat => s.heap.size ≤ q) b := Nat.not_le.mpr hbl
  refine l_ex (fun t => ?_)
  refine gq_aln C 1 dL_law_859 rfl rfl rfl ?_
  refine gq_aln C 0 dL_law_860 rfl rfl rfl ?_
  refine gq_iln C 3 dL_law_861 rfl rfl rfl ?_
  refine gq_ic C dL_law_862 rfl ?_
  refine gq_add C dL_law_863 rfl ?_
  refine l_sld C hX hbl hbA hL (by omega) (by omega) dL_law_864 rfl ?_
  refine gq_aln C 0 dL_law_865 rfl rfl rfl ?_
  refine gq_iln C 3 dL_law_866 rfl rfl rfl ?_
  refine gq_ic C dL_law_867 rfl ?_
  refine gq_add C dL_law_868 rfl ?_
  refine l_sld C hX hbl hbA hL (by omega) (by omega) dL_law_869 rfl ?_
  refine gq_aln C 0 dL_law_870 rfl rfl rfl ?_
  refine gq_iln C 3 dL_law_871 rfl rfl rfl ?_
  refine gq_ic C dL_law_872 rfl ?_
  refine gq_add C dL_law_873 rfl ?_
  refine l_sld C hX hbl hbA hL (by omega) (by omega) dL_law_874 rfl ?_
  refine l_x (ts := [.inl (-2147483648, 2147483647), .inl (-2147483648, 2147483647), .inl (-2147483648, 2147483647)]) (As := [zv (xs (Int.toNat (i + 1))).toInt, zv (xs (Int.toNat (i + 2))).toInt, zv (xs (Int.toNat (i + 3))).toInt]) (rest := []) C hE hEs rfl hA (fun gx ax => kx208 hXX) rfl ⟨by decide, by decide⟩ rfl (fun gs ad => ⟨ok_top _, ok_top _, ok_top _, trivial⟩) (ret_ok rfl) ⟨Nat.le_of_ble_eq_true rfl, Nat.le_of_ble_eq_true rfl⟩ ⟨Nat.le_of_ble_eq_true rfl, Nat.le_of_ble_eq_true rfl⟩ iV_X11_three g_L_110 dL_law_875 rfl rfl (Nat.le_of_ble_eq_true rfl) rfl (fun z875 => ?_)
  refine gq_pop C dL_law_878 rfl rfl ?_
  refine gq_aln C 2 dL_law_879 rfl rfl rfl ?_
  refine gq_aln C 0 dL_law_880 rfl rfl rfl ?_
  refine gq_iln C 3 dL_law_881 rfl rfl rfl ?_
  refine gq_ic C dL_law_882 rfl ?_
  refine gq_add C dL_law_883 rfl ?_
  refine l_sld C hX hbl hbA hL (by omega) (by omega) dL_law_884 rfl ?_
  refine gq_aln C 0 dL_law_885 rfl rfl rfl ?_
  refine gq_iln C 3 dL_law_886 rfl rfl rfl ?_
  refine gq_ic C dL_law_887 rfl ?_
  refine gq_add C dL_law_888 rfl ?_
  refine l_sld C hX hbl hbA hL (by omega) (by omega) dL_law_889 rfl ?_
  refine gq_aln C 0 dL_law_890 rfl rfl rfl ?_
  refine gq_iln C 3 dL_law_891 rfl rfl rfl ?_
  refine gq_ic C dL_law_892 rfl ?_
  refine gq_add C dL_law_893 rfl ?_
  refine l_sld C hX hbl hbA hL (by omega) (by omega) dL_law_894 rfl ?_
  refine l_m (As := [zv (xs (Int.toNat (i + 1))).toInt, zv (xs (Int.toNat (i + 2))).toInt, zv (xs (Int.toNat (i + 3))).toInt]) (rest := []) C hE hEs rfl hA (mc_fxI (fun am => km320 hE) rfl ⟨by decide, by decide, by decide⟩ (fun am ha => (show fx_ty _ am [.inr (.inr 1), .inl (-2147483648, 2147483647), .inl (-2147483648, 2147483647), .inl (-2147483648, 2147483647)] [.ref m0, zv (xs (Int.toNat (i + 1))).toInt, zv (xs (Int.toNat (i + 2))).toInt, zv (xs (Int.toNat (i + 3))).toInt] from oks_ok ⟨rt_ok ⟨0, ha, rfl⟩ (by decide), ok_top _, ok_top _, ok_top _, trivial⟩)) (ret_ok rfl)) ⟨Nat.le_of_ble_eq_true rfl, Nat.le_of_ble_eq_true rfl⟩ ⟨Nat.le_of_ble_eq_true rfl, Nat.le_of_ble_eq_true rfl⟩ iV_X12_three g_L_114 dL_law_895 rfl rfl (Nat.le_of_ble_eq_true rfl) rfl (fun z895 => ?_)
  refine gq_pop C dL_law_898 rfl rfl ?_
  refine gq_goto C 1570 dL_law_899 (by decide) ?_
  exact l_in kk
