theorem m_1237 : Cond.methodLink RL 115 yX11_common ∈ wsL_law := in_wsL_law_r52 _ (List.mem_of_getElem? (i := 13) rfl)
theorem m_1238 : Cond.instanceMethod yX11_common ∈ wsL_law := in_wsL_law_r52 _ (List.mem_of_getElem? (i := 14) rfl)
theorem m_1239 : Cond.selects RX11 yX11_common yX11_common ∈ wsL_law := in_wsL_law_r52 _ (List.mem_of_getElem? (i := 15) rfl)
theorem m_1240 : Cond.code yX11_common cX11_common 5 (some .int) ∈ wsL_law := in_wsL_law_r52 _ (List.mem_of_getElem? (i := 16) rfl)
theorem m_1270 : Cond.methodLink RL 118 yX12_common ∈ wsL_law := in_wsL_law_r53 _ (List.mem_of_getElem? (i := 22) rfl)
theorem m_1271 : Cond.instanceMethod yX12_common ∈ wsL_law := in_wsL_law_r53 _ (List.mem_of_getElem? (i := 23) rfl)
theorem m_1272 : Cond.selects RX12 yX12_common yX12_common ∈ wsL_law := in_wsL_law_r54 _ (List.mem_of_getElem? (i := 0) rfl)
theorem m_1273 : Cond.code yX12_common cX12_common 9 (some .int) ∈ wsL_law := in_wsL_law_r54 _ (List.mem_of_getElem? (i := 1) rfl)
theorem m_1281 : Cond.methodLink RL 119 yX11_keep ∈ wsL_law := in_wsL_law_r54 _ (List.mem_of_getElem? (i := 9) rfl)
theorem m_1282 : Cond.instanceMethod yX11_keep ∈ wsL_law := in_wsL_law_r54 _ (List.mem_of_getElem? (i := 10) rfl)
theorem m_1283 : Cond.selects RX11 yX11_keep yX11_keep ∈ wsL_law := in_wsL_law_r54 _ (List.mem_of_getElem? (i := 11) rfl)
theorem m_1284 : Cond.code yX11_keep cX11_keep 3 (some .int) ∈ wsL_law := in_wsL_law_r54 _ (List.mem_of_getElem? (i := 12) rfl)
theorem m_1318 : Cond.methodLink RL 122 yX12_keep ∈ wsL_law := in_wsL_law_r55 _ (List.mem_of_getElem? (i := 22) rfl)
theorem m_1319 : Cond.instanceMethod yX12_keep ∈ wsL_law := in_wsL_law_r55 _ (List.mem_of_getElem? (i := 23) rfl)
theorem m_1320 : Cond.selects RX12 yX12_keep yX12_keep ∈ wsL_law := in_wsL_law_r56 _ (List.mem_of_getElem? (i := 0) rfl)
theorem m_1321 : Cond.code yX12_keep cX12_keep 7 (some .int) ∈ wsL_law := in_wsL_law_r56 _ (List.mem_of_getElem? (i := 1) rfl)
theorem m_1339 : Cond.methodLink RL 123 yX11_mean ∈ wsL_law := in_wsL_law_r56 _ (List.mem_of_getElem? (i := 19) rfl)
theorem m_1340 : Cond.instanceMethod yX11_mean ∈ wsL_law := in_wsL_law_r56 _ (List.mem_of_getElem? (i := 20) rfl)
theorem m_1341 : Cond.selects RX11 yX11_mean yX11_mean ∈ wsL_law := in_wsL_law_r56 _ (List.mem_of_getElem? (i := 21) rfl)
theorem m_1342 : Cond.code yX11_mean cX11_mean 4 (some .int) ∈ wsL_law := in_wsL_law_r56 _ (List.mem_of_getElem? (i := 22) rfl)
theorem m_1347 : Cond.methodLink RL 126 yX12_mean ∈ wsL_law := in_wsL_law_r57 _ (List.mem_of_getElem? (i := 3) rfl)
theorem m_1348 : Cond.instanceMethod yX12_mean ∈ wsL_law := in_wsL_law_r57 _ (List.mem_of_getElem? (i := 4) rfl)
theorem m_1349 : Cond.selects RX12 yX12_mean yX12_mean ∈ wsL_law := in_wsL_law_r57 _ (List.mem_of_getElem? (i := 5) rfl)
theorem m_1350 : Cond.code yX12_mean cX12_mean 5 (some .int) ∈ wsL_law := in_wsL_law_r57 _ (List.mem_of_getElem? (i := 6) rfl)
theorem m_1351 : Cond.methodLink RL 127 yX11_duel ∈ wsL_law := in_wsL_law_r57 _ (List.mem_of_getElem? (i := 7) rfl)
theorem m_1352 : Cond.instanceMethod yX11_duel ∈ wsL_law := in_wsL_law_r57 _ (List.mem_of_getElem? (i := 8) rfl)
theorem m_1353 : Cond.selects RX11 yX11_duel yX11_duel ∈ wsL_law := in_wsL_law_r57 _ (List.mem_of_getElem? (i := 9) rfl)
theorem m_1354 : Cond.code yX11_duel cX11_duel 4 (some .int) ∈ wsL_law := in_wsL_law_r57 _ (List.mem_of_getElem? (i := 10) rfl)
theorem m_1372 : Cond.methodLink RL 130 yX12_duel ∈ wsL_law := in_wsL_law_r58 _ (List.mem_of_getElem? (i := 4) rfl)
theorem m_1373 : Cond.instanceMethod yX12_duel ∈ wsL_law := in_wsL_law_r58 _ (List.mem_of_getElem? (i := 5) rfl)
theorem m_1374 : Cond.selects RX12 yX12_duel yX12_duel ∈ wsL_law := in_wsL_law_r58 _ (List.mem_of_getElem? (i := 6) rfl)
theorem m_1375 : Cond.code yX12_duel cX12_duel 4 (some .int) ∈ wsL_law := in_wsL_law_r58 _ (List.mem_of_getElem? (i := 7) rfl)
theorem m_1381 : Cond.methodLink RL 131 yX11_apart ∈ wsL_law := in_wsL_law_r58 _ (List.mem_of_getElem? (i := 13) rfl)
theorem m_1382 : Cond.instanceMethod yX11_apart ∈ wsL_law := in_wsL_law_r58 _ (List.mem_of_getElem? (i := 14) rfl)
theorem m_1383 : Cond.selects RX11 yX11_apart yX11_apart ∈ wsL_law := in_wsL_law_r58 _ (List.mem_of_getElem? (i := 15) rfl)
theorem m_1384 : Cond.code yX11_apart cX11_apart 5 (some .int) ∈ wsL_law := in_wsL_law_r58 _ (List.mem_of_getElem? (i := 16) rfl)
theorem m_1393 : Cond.methodLink RL 134 yX12_apart ∈ wsL_law := in_wsL_law_r59 _ (List.mem_of_getElem? (i := 1) rfl)
theorem m_1394 : Cond.instanceMethod yX12_apart ∈ wsL_law := in_wsL_law_r59 _ (List.mem_of_getElem? (i := 2) rfl)
theorem m_1395 : Cond.selects RX12 yX12_apart yX12_apart ∈ wsL_law := in_wsL_law_r59 _ (List.mem_of_getElem? (i := 3) rfl)
theorem m_1396 : Cond.code yX12_apart cX12_apart 9 (some .int) ∈ wsL_law := in_wsL_law_r59 _ (List.mem_of_getElem? (i := 4) rfl)
theorem m_1397 : Cond.methodLink RL 135 yX11_strange ∈ wsL_law := in_wsL_law_r59 _ (List.mem_of_getElem? (i := 5) rfl)
theorem m_1398 : Cond.instanceMethod yX11_strange ∈ wsL_law := in_wsL_law_r59 _ (List.mem_of_getElem? (i := 6) rfl)
theorem m_1399 : Cond.selects RX11 yX11_strange yX11_strange ∈ wsL_law := in_wsL_law_r59 _ (List.mem_of_getElem? (i := 7) rfl)
theorem m_1400 : Cond.code yX11_strange cX11_strange 3 (some .int) ∈ wsL_law := in_wsL_law_r59 _ (List.mem_of_getElem? (i := 8) rfl)
theorem m_1402 : Cond.methodLink RL 138 yX12_strange ∈ wsL_law := in_wsL_law_r59 _ (List.mem_of_getElem? (i := 10) rfl)
theorem m_1403 : Cond.instanceMethod yX12_strange ∈ wsL_law := in_wsL_law_r59 _ (List.mem_of_getElem? (i := 11) rfl)
theorem m_1404 : Cond.selects RX12 yX12_strange yX12_strange ∈ wsL_law := in_wsL_law_r59 _ (List.mem_of_getElem? (i := 12) rfl)
theorem m_1405 : Cond.code yX12_strange cX12_strange 2 (some .int) ∈ wsL_law := in_wsL_law_r59 _ (List.mem_of_getElem? (i := 13) rfl)
theorem m_1406 : Cond.methodLink RL 139 yX11_becomes ∈ wsL_law := in_wsL_law_r59 _ (List.mem_of_getElem? (i := 14) rfl)
theorem m_1407 : Cond.instanceMethod yX11_becomes ∈ wsL_law := in_wsL_law_r59 _ (List.mem_of_getElem? (i := 15) rfl)
theorem m_1408 : Cond.selects RX11 yX11_becomes yX11_becomes ∈ wsL_law := in_wsL_law_r59 _ (List.mem_of_getElem? (i := 16) rfl)
theorem m_1409 : Cond.code yX11_becomes cX11_becomes 4 (some .int) ∈ wsL_law := in_wsL_law_r59 _ (List.mem_of_getElem? (i := 17) rfl)
theorem m_1418 : Cond.methodLink RL 142 yX12_becomes ∈ wsL_law := in_wsL_law_r60 _ (List.mem_of_getElem? (i := 2) rfl)
theorem m_1419 : Cond.instanceMethod yX12_becomes ∈ wsL_law := in_wsL_law_r60 _ (List.mem_of_getElem? (i := 3) rfl)
theorem m_1420 : Cond.selects RX12 yX12_becomes yX12_becomes ∈ wsL_law := in_wsL_law_r60 _ (List.mem_of_getElem? (i := 4) rfl)
theorem m_1421 : Cond.code yX12_becomes cX12_becomes 6 (some .int) ∈ wsL_law := in_wsL_law_r60 _ (List.mem_of_getElem? (i := 5) rfl)
theorem m_1434 : Cond.methodLink RL 143 yX11_will ∈ wsL_law := in_wsL_law_r60 _ (List.mem_of_getElem? (i := 18) rfl)
theorem m_1435 : Cond.instanceMethod yX11_will ∈ wsL_law := in_wsL_law_r60 _ (List.mem_of_getElem? (i := 19) rfl)
theorem m_1436 : Cond.selects RX11 yX11_will yX11_will ∈ wsL_law := in_wsL_law_r60 _ (List.mem_of_getElem? (i := 20) rfl)
theorem m_1437 : Cond.code yX11_will cX11_will 3 (some .int) ∈ wsL_law := in_wsL_law_r60 _ (List.mem_of_getElem? (i := 21) rfl)
theorem m_1442 : Cond.methodLink RL 146 yX12_will ∈ wsL_law := in_wsL_law_r61 _ (List.mem_of_getElem? (i := 2) rfl)
theorem m_1443 : Cond.instanceMethod yX12_will ∈ wsL_law := in_wsL_law_r61 _ (List.mem_of_getElem? (i := 3) rfl)
theorem m_1444 : Cond.selects RX12 yX12_will yX12_will ∈ wsL_law := in_wsL_law_r61 _ (List.mem_of_getElem? (i := 4) rfl)
theorem m_1445 : Cond.code yX12_will cX12_will 5 (some .int) ∈ wsL_law := in_wsL_law_r61 _ (List.mem_of_getElem? (i := 5) rfl)
theorem m_1446 : Cond.methodLink RL 147 yX11_last ∈ wsL_law := in_wsL_law_r61 _ (List.mem_of_getElem? (i := 6) rfl)
theorem m_1447 : Cond.instanceMethod yX11_last ∈ wsL_law := in_wsL_law_r61 _ (List.mem_of_getElem? (i := 7) rfl)
theorem m_1448 : Cond.selects RX11 yX11_last yX11_last ∈ wsL_law := in_wsL_law_r61 _ (List.mem_of_getElem? (i := 8) rfl)
theorem m_1449 : Cond.code yX11_last cX11_last 3 (some .int) ∈ wsL_law := in_wsL_law_r61 _ (List.mem_of_getElem? (i := 9) rfl)
theorem m_1450 : Cond.methodLink RL 150 yX12_last ∈ wsL_law := in_wsL_law_r61 _ (List.mem_of_getElem? (i := 10) rfl)
theorem m_1451 : Cond.instanceMethod yX12_last ∈ wsL_law := in_wsL_law_r61 _ (List.mem_of_getElem? (i := 11) rfl)
theorem m_1452 : Cond.selects RX12 yX12_last yX12_last ∈ wsL_law := in_wsL_law_r61 _ (List.mem_of_getElem? (i := 12) rfl)
theorem m_1453 : Cond.code yX12_last cX12_last 3 (some .int) ∈ wsL_law := in_wsL_law_r61 _ (List.mem_of_getElem? (i := 13) rfl)
theorem m_1454 : Cond.methodLink RL 151 yX11_mark ∈ wsL_law := in_wsL_law_r61 _ (List.mem_of_getElem? (i := 14) rfl)
theorem m_1455 : Cond.instanceMethod yX11_mark ∈ wsL_law := in_wsL_law_r61 _ (List.mem_of_getElem? (i := 15) rfl)
theorem m_1456 : Cond.selects RX11 yX11_mark yX11_mark ∈ wsL_law := in_wsL_law_r61 _ (List.mem_of_getElem? (i := 16) rfl)
theorem m_1457 : Cond.code yX11_mark cX11_mark 3 (some .int) ∈ wsL_law := in_wsL_law_r61 _ (List.mem_of_getElem? (i := 17) rfl)
theorem m_1462 : Cond.methodLink RL 154 yX12_mark ∈ wsL_law := in_wsL_law_r61 _ (List.mem_of_getElem? (i := 22) rfl)
theorem m_1463 : Cond.instanceMethod yX12_mark ∈ wsL_law := in_wsL_law_r61 _ (List.mem_of_getElem? (i := 23) rfl)
theorem m_1464 : Cond.selects RX12 yX12_mark yX12_mark ∈ wsL_law := in_wsL_law_r62 _ (List.mem_of_getElem? (i := 0) rfl)
theorem m_1465 : Cond.code yX12_mark cX12_mark 2 (some .int) ∈ wsL_law := in_wsL_law_r62 _ (List.mem_of_getElem? (i := 1) rfl)
theorem m_1470 : Cond.methodLink RL 155 yX11_mended ∈ wsL_law := in_wsL_law_r62 _ (List.mem_of_getElem? (i := 6) rfl)
theorem m_1471 : Cond.instanceMethod yX11_mended ∈ wsL_law := in_wsL_law_r62 _ (List.mem_of_getElem? (i := 7) rfl)
theorem m_1472 : Cond.selects RX11 yX11_mended yX11_mended ∈ wsL_law := in_wsL_law_r62 _ (List.mem_of_getElem? (i := 8) rfl)
theorem m_1473 : Cond.code yX11_mended cX11_mended 4 (some .int) ∈ wsL_law := in_wsL_law_r62 _ (List.mem_of_getElem? (i := 9) rfl)
theorem m_1500 : Cond.methodLink RL 158 yX12_mended ∈ wsL_law := in_wsL_law_r63 _ (List.mem_of_getElem? (i := 12) rfl)
theorem m_1501 : Cond.instanceMethod yX12_mended ∈ wsL_law := in_wsL_law_r63 _ (List.mem_of_getElem? (i := 13) rfl)
theorem m_1502 : Cond.selects RX12 yX12_mended yX12_mended ∈ wsL_law := in_wsL_law_r63 _ (List.mem_of_getElem? (i := 14) rfl)
theorem m_1503 : Cond.code yX12_mended cX12_mended 3 (some .int) ∈ wsL_law := in_wsL_law_r63 _ (List.mem_of_getElem? (i := 15) rfl)
theorem m_1516 : Cond.methodLink RL 159 yX11_safe ∈ wsL_law := in_wsL_law_r64 _ (List.mem_of_getElem? (i := 4) rfl)
theorem m_1517 : Cond.instanceMethod yX11_safe ∈ wsL_law := in_wsL_law_r64 _ (List.mem_of_getElem? (i := 5) rfl)
theorem m_1518 : Cond.selects RX11 yX11_safe yX11_safe ∈ wsL_law := in_wsL_law_r64 _ (List.mem_of_getElem? (i := 6) rfl)
theorem m_1519 : Cond.code yX11_safe cX11_safe 1 (some .int) ∈ wsL_law := in_wsL_law_r64 _ (List.mem_of_getElem? (i := 7) rfl)
theorem m_1526 : Cond.methodLink RL 162 yX12_safe ∈ wsL_law := in_wsL_law_r64 _ (List.mem_of_getElem? (i := 14) rfl)
theorem m_1527 : Cond.instanceMethod yX12_safe ∈ wsL_law := in_wsL_law_r64 _ (List.mem_of_getElem? (i := 15) rfl)
theorem m_1528 : Cond.selects RX12 yX12_safe yX12_safe ∈ wsL_law := in_wsL_law_r64 _ (List.mem_of_getElem? (i := 16) rfl)
theorem m_1529 : Cond.code yX12_safe cX12_safe 4 (some .int) ∈ wsL_law := in_wsL_law_r64 _ (List.mem_of_getElem? (i := 17) rfl)
theorem iV_X11_common : yX11_common.cls = RX11 ∧ yX11_common.cls ≠ "java/lang/invoke/MethodHandle" ∧ yX11_common.cls ≠ "java/lang/invoke/VarHandle" ∧ (parseMethodDescriptor yX11_common.desc).map (fun d => d.parameters.length) = some 2 := by decide +kernel
theorem iV_X12_common : yX12_common.cls = RX12 ∧ yX12_common.cls ≠ "java/lang/invoke/MethodHandle" ∧ yX12_common.cls ≠ "java/lang/invoke/VarHandle" ∧ (parseMethodDescriptor yX12_common.desc).map (fun d => d.parameters.length) = some 2 := by decide +kernel
theorem iV_X11_keep : yX11_keep.cls = RX11 ∧ yX11_keep.cls ≠ "java/lang/invoke/MethodHandle" ∧ yX11_keep.cls ≠ "java/lang/invoke/VarHandle" ∧ (parseMethodDescriptor yX11_keep.desc).map (fun d => d.parameters.length) = some 2 := by decide +kernel
theorem iV_X12_keep : yX12_keep.cls = RX12 ∧ yX12_keep.cls ≠ "java/lang/invoke/MethodHandle" ∧ yX12_keep.cls ≠ "java/lang/invoke/VarHandle" ∧ (parseMethodDescriptor yX12_keep.desc).map (fun d => d.parameters.length) = some 2 := by decide +kernel
theorem iV_X11_mean : yX11_mean.cls = RX11 ∧ yX11_mean.cls ≠ "java/lang/invoke/MethodHandle" ∧ yX11_mean.cls ≠ "java/lang/invoke/VarHandle" ∧ (parseMethodDescriptor yX11_mean.desc).map (fun d => d.parameters.length) = some 2 := by decide +kernel
theorem iV_X12_mean : yX12_mean.cls = RX12 ∧ yX12_mean.cls ≠ "java/lang/invoke/MethodHandle" ∧ yX12_mean.cls ≠ "java/lang/invoke/VarHandle" ∧ (parseMethodDescriptor yX12_mean.desc).map (fun d => d.parameters.length) = some 2 := by decide +kernel
theorem iV_X11_duel : yX11_duel.cls = RX11 ∧ yX11_duel.cls ≠ "java/lang/invoke/MethodHandle" ∧ yX11_duel.cls ≠ "java/lang/invoke/VarHandle" ∧ (parseMethodDescriptor yX11_duel.desc).map (fun d => d.parameters.length) = some 2 := by decide +kernel
theorem iV_X12_duel : yX12_duel.cls = RX12 ∧ yX12_duel.cls ≠ "java/lang/invoke/MethodHandle" ∧ yX12_duel.cls ≠ "java/lang/invoke/VarHandle" ∧ (parseMethodDescriptor yX12_duel.desc).map (fun d => d.parameters.length) = some 2 := by decide +kernel
theorem iV_X11_apart : yX11_apart.cls = RX11 ∧ yX11_apart.cls ≠ "java/lang/invoke/MethodHandle" ∧ yX11_apart.cls ≠ "java/lang/invoke/VarHandle" ∧ (parseMethodDescriptor yX11_apart.desc).map (fun d => d.parameters.length) = some 2 := by decide +kernel
theorem iV_X12_apart : yX12_apart.cls = RX12 ∧ yX12_apart.cls ≠ "java/lang/invoke/MethodHandle" ∧ yX12_apart.cls ≠ "java/lang/invoke/VarHandle" ∧ (parseMethodDescriptor yX12_apart.desc).map (fun d => d.parameters.length) = some 2 := by decide +kernel
theorem iV_X11_strange : yX11_strange.cls = RX11 ∧ yX11_strange.cls ≠ "java/lang/invoke/MethodHandle" ∧ yX11_strange.cls ≠ "java/lang/invoke/VarHandle" ∧ (parseMethodDescriptor yX11_strange.desc).map (fun d => d.parameters.length) = some 1 := by decide +kernel
theorem iV_X12_strange : yX12_strange.cls = RX12 ∧ yX12_strange.cls ≠ "java/lang/invoke/MethodHandle" ∧ yX12_strange.cls ≠ "java/lang/invoke/VarHandle" ∧ (parseMethodDescriptor yX12_strange.desc).map (fun d => d.parameters.length) = some 1 := by decide +kernel
theorem iV_X11_becomes : yX11_becomes.cls = RX11 ∧ yX11_becomes.cls ≠ "java/lang/invoke/MethodHandle" ∧ yX11_becomes.cls ≠ "java/lang/invoke/VarHandle" ∧ (parseMethodDescriptor yX11_becomes.desc).map (fun d => d.parameters.length) = some 2 := by decide +kernel
theorem iV_X12_becomes : yX12_becomes.cls = RX12 ∧ yX12_becomes.cls ≠ "java/lang/invoke/MethodHandle" ∧ yX12_becomes.cls ≠ "java/lang/invoke/VarHandle" ∧ (parseMethodDescriptor yX12_becomes.desc).map (fun d => d.parameters.length) = some 2 := by decide +kernel
theorem iV_X11_will : yX11_will.cls = RX11 ∧ yX11_will.cls ≠ "java/lang/invoke/MethodHandle" ∧ yX11_will.cls ≠ "java/lang/invoke/VarHandle" ∧ (parseMethodDescriptor yX11_will.desc).map (fun d => d.parameters.length) = some 2 := by decide +kernel
theorem iV_X12_will : yX12_will.cls = RX12 ∧ yX12_will.cls ≠ "java/lang/invoke/MethodHandle" ∧ yX12_will.cls ≠ "java/lang/invoke/VarHandle" ∧ (parseMethodDescriptor yX12_will.desc).map (fun d => d.parameters.length) = some 2 := by decide +kernel
theorem iV_X11_last : yX11_last.cls = RX11 ∧ yX11_last.cls ≠ "java/lang/invoke/MethodHandle" ∧ yX11_last.cls ≠ "java/lang/invoke/VarHandle" ∧ (parseMethodDescriptor yX11_last.desc).map (fun d => d.parameters.length) = some 1 := by decide +kernel
theorem iV_X12_last : yX12_last.cls = RX12 ∧ yX12_last.cls ≠ "java/lang/invoke/MethodHandle" ∧ yX12_last.cls ≠ "java/lang/invoke/VarHandle" ∧ (parseMethodDescriptor yX12_last.desc).map (fun d => d.parameters.length) = some 1 := by decide +kernel
theorem iV_X11_mark : yX11_mark.cls = RX11 ∧ yX11_mark.cls ≠ "java/lang/invoke/MethodHandle" ∧ yX11_mark.cls ≠ "java/lang/invoke/VarHandle" ∧ (parseMethodDescriptor yX11_mark.desc).map (fun d => d.parameters.length) = some 1 := by decide +kernel
theorem iV_X12_mark : yX12_mark.cls = RX12 ∧ yX12_mark.cls ≠ "java/lang/invoke/MethodHandle" ∧ yX12_mark.cls ≠ "java/lang/invoke/VarHandle" ∧ (parseMethodDescriptor yX12_mark.desc).map (fun d => d.parameters.length) = some 1 := by decide +kernel
theorem iV_X11_mended : yX11_mended.cls = RX11 ∧ yX11_mended.cls ≠ "java/lang/invoke/MethodHandle" ∧ yX11_mended.cls ≠ "java/lang/invoke/VarHandle" ∧ (parseMethodDescriptor yX11_mended.desc).map (fun d => d.parameters.length) = some 2 := by decide +kernel
theorem iV_X12_mended : yX12_mended.cls = RX12 ∧ yX12_mended.cls ≠ "java/lang/invoke/MethodHandle" ∧ yX12_mended.cls ≠ "java/lang/invoke/VarHandle" ∧ (parseMethodDescriptor yX12_mended.desc).map (fun d => d.parameters.length) = some 2 := by decide +kernel
theorem iV_X11_safe : yX11_safe.cls = RX11 ∧ yX11_safe.cls ≠ "java/lang/invoke/MethodHandle" ∧ yX11_safe.cls ≠ "java/lang/invoke/VarHandle" ∧ (parseMethodDescriptor yX11_safe.desc).map (fun d => d.parameters.length) = some 0 := by decide +kernel
theorem iV_X12_safe : yX12_safe.cls = RX12 ∧ yX12_safe.cls ≠ "java/lang/invoke/MethodHandle" ∧ yX12_safe.cls ≠ "java/lang/invoke/VarHandle" ∧ (parseMethodDescriptor yX12_safe.desc).map (fun d => d.parameters.length) = some 0 := by decide +kernel
theorem g_L_115 : GoodIn wsL_law (wsV RL 115 RX11 yX11_common (.code yX11_common cX11_common 5 (some .int) :: wsL_law)) := gdV m_1237 m_1238 m_1239 m_2 m_1240
theorem g_L_118 : GoodIn wsL_law (wsV RL 118 RX12 yX12_common (.code yX12_common cX12_common 9 (some .int) :: wsL_law)) := gdV m_1270 m_1271 m_1272 m_5 m_1273
theorem g_L_119 : GoodIn wsL_law (wsV RL 119 RX11 yX11_keep (.code yX11_keep cX11_keep 3 (some .int) :: wsL_law)) := gdV m_1281 m_1282 m_1283 m_2 m_1284
theorem g_L_122 : GoodIn wsL_law (wsV RL 122 RX12 yX12_keep (.code yX12_keep cX12_keep 7 (some .int) :: wsL_law)) := gdV m_1318 m_1319 m_1320 m_5 m_1321
theorem g_L_123 : GoodIn wsL_law (wsV RL 123 RX11 yX11_mean (.code yX11_mean cX11_mean 4 (some .int) :: wsL_law)) := gdV m_1339 m_1340 m_1341 m_2 m_1342
theorem g_L_126 : GoodIn wsL_law (wsV RL 126 RX12 yX12_mean (.code yX12_mean cX12_mean 5 (some .int) :: wsL_law)) := gdV m_1347 m_1348 m_1349 m_5 m_1350
theorem g_L_127 : GoodIn wsL_law (wsV RL 127 RX11 yX11_duel (.code yX11_duel cX11_duel 4 (some .int) :: wsL_law)) := gdV m_1351 m_1352 m_1353 m_2 m_1354
theorem g_L_130 : GoodIn wsL_law (wsV RL 130 RX12 yX12_duel (.code yX12_duel cX12_duel 4 (some .int) :: wsL_law)) := gdV m_1372 m_1373 m_1374 m_5 m_1375
theorem g_L_131 : GoodIn wsL_law (wsV RL 131 RX11 yX11_apart (.code yX11_apart cX11_apart 5 (some .int) :: wsL_law)) := gdV m_1381 m_1382 m_1383 m_2 m_1384
theorem g_L_134 : GoodIn wsL_law (wsV RL 134 RX12 yX12_apart (.code yX12_apart cX12_apart 9 (some .int) :: wsL_law)) := gdV m_1393 m_1394 m_1395 m_5 m_1396
theorem g_L_135 : GoodIn wsL_law (wsV RL 135 RX11 yX11_strange (.code yX11_strange cX11_strange 3 (some .int) :: wsL_law)) := gdV m_1397 m_1398 m_1399 m_2 m_1400
theorem g_L_138 : GoodIn wsL_law (wsV RL 138 RX12 yX12_strange (.code yX12_strange cX12_strange 2 (some .int) :: wsL_law)) := gdV m_1402 m_1403 m_1404 m_5 m_1405
theorem g_L_139 : GoodIn wsL_law (wsV RL 139 RX11 yX11_becomes (.code yX11_becomes cX11_becomes 4 (some .int) :: wsL_law)) := gdV m_1406 m_1407 m_1408 m_2 m_1409
theorem g_L_142 : GoodIn wsL_law (wsV RL 142 RX12 yX12_becomes (.code yX12_becomes cX12_becomes 6 (some .int) :: wsL_law)) := gdV m_1418 m_1419 m_1420 m_5 m_1421
theorem g_L_143 : GoodIn wsL_law (wsV RL 143 RX11 yX11_will (.code yX11_will cX11_will 3 (some .int) :: wsL_law)) := gdV m_1434 m_1435 m_1436 m_2 m_1437
theorem g_L_146 : GoodIn wsL_law (wsV RL 146 RX12 yX12_will (.code yX12_will cX12_will 5 (some .int) :: wsL_law)) := gdV m_1442 m_1443 m_1444 m_5 m_1445
theorem g_L_147 : GoodIn wsL_law (wsV RL 147 RX11 yX11_last (.code yX11_last cX11_last 3 (some .int) :: wsL_law)) := gdV m_1446 m_1447 m_1448 m_2 m_1449
theorem g_L_150 : GoodIn wsL_law (wsV RL 150 RX12 yX12_last (.code yX12_last cX12_last 3 (some .int) :: wsL_law)) := gdV m_1450 m_1451 m_1452 m_5 m_1453
theorem g_L_151 : GoodIn wsL_law (wsV RL 151 RX11 yX11_mark (.code yX11_mark cX11_mark 3 (some .int) :: wsL_law)) := gdV m_1454 m_1455 m_1456 m_2 m_1457
theorem g_L_154 : GoodIn wsL_law (wsV RL 154 RX12 yX12_mark (.code yX12_mark cX12_mark 2 (some .int) :: wsL_law)) := gdV m_1462 m_1463 m_1464 m_5 m_1465
theorem g_L_155 : GoodIn wsL_law (wsV RL 155 RX11 yX11_mended (.code yX11_mended cX11_mended 4 (some .int) :: wsL_law)) := gdV m_1470 m_1471 m_1472 m_2 m_1473
theorem g_L_158 : GoodIn wsL_law (wsV RL 158 RX12 yX12_mended (.code yX12_mended cX12_mended 3 (some .int) :: wsL_law)) := gdV m_1500 m_1501 m_1502 m_5 m_1503
theorem g_L_159 : GoodIn wsL_law (wsV RL 159 RX11 yX11_safe (.code yX11_safe cX11_safe 1 (some .int) :: wsL_law)) := gdV m_1516 m_1517 m_1518 m_2 m_1519
theorem g_L_162 : GoodIn wsL_law (wsV RL 162 RX12 yX12_safe (.code yX12_safe cX12_safe 4 (some .int) :: wsL_law)) := gdV m_1526 m_1527 m_1528 m_5 m_1529
theorem dL_law_902 : decode cL_law 902 = .ok (.aload_n 1, 1) := by decide +kernel
theorem dL_law_903 : decode cL_law 903 = .ok (.aload_n 0, 1) := by decide +kernel
theorem dL_law_904 : decode cL_law 904 = .ok (.iload_n 3, 1) := by decide +kernel
theorem dL_law_905 : decode cL_law 905 = .ok (.iconst 1, 1) := by decide +kernel
theorem dL_law_906 : decode cL_law 906 = .ok (.iadd, 1) := by decide +kernel
theorem dL_law_907 : decode cL_law 907 = .ok (.iaload, 1) := by decide +kernel
theorem dL_law_908 : decode cL_law 908 = .ok (.aload_n 0, 1) := by decide +kernel
theorem dL_law_909 : decode cL_law 909 = .ok (.iload_n 3, 1) := by decide +kernel
theorem dL_law_910 : decode cL_law 910 = .ok (.iconst 2, 1) := by decide +kernel
theorem dL_law_911 : decode cL_law 911 = .ok (.iadd, 1) := by decide +kernel
theorem dL_law_912 : decode cL_law 912 = .ok (.iaload, 1) := by decide +kernel
theorem dL_law_913 : decode cL_law 913 = .ok (.invokevirtual 115, 3) := by decide +kernel
theorem dL_law_916 : decode cL_law 916 = .ok (.pop, 1) := by decide +kernel
theorem dL_law_917 : decode cL_law 917 = .ok (.aload_n 2, 1) := by decide +kernel
theorem dL_law_918 : decode cL_law 918 = .ok (.aload_n 0, 1) := by decide +kernel
theorem dL_law_919 : decode cL_law 919 = .ok (.iload_n 3, 1) := by decide +kernel
theorem dL_law_920 : decode cL_law 920 = .ok (.iconst 1, 1) := by decide +kernel
theorem dL_law_921 : decode cL_law 921 = .ok (.iadd, 1) := by decide +kernel
theorem dL_law_922 : decode cL_law 922 = .ok (.iaload, 1) := by decide +kernel
theorem dL_law_923 : decode cL_law 923 = .ok (.aload_n 0, 1) := by decide +kernel
theorem dL_law_924 : decode cL_law 924 = .ok (.iload_n 3, 1) := by decide +kernel
theorem dL_law_925 : decode cL_law 925 = .ok (.iconst 2, 1) := by decide +kernel
theorem dL_law_926 : decode cL_law 926 = .ok (.iadd, 1) := by decide +kernel
theorem dL_law_927 : decode cL_law 927 = .ok (.iaload, 1) := by decide +kernel
theorem dL_law_928 : decode cL_law 928 = .ok (.invokevirtual 118, 3) := by decide +kernel
theorem dL_law_931 : decode cL_law 931 = .ok (.pop, 1) := by decide +kernel
theorem dL_law_932 : decode cL_law 932 = .ok (.goto 638, 3) := by decide +kernel
theorem dL_law_935 : decode cL_law 935 = .ok (.aload_n 1, 1) := by decide +kernel
theorem dL_law_936 : decode cL_law 936 = .ok (.aload_n 0, 1) := by decide +kernel
theorem dL_law_937 : decode cL_law 937 = .ok (.iload_n 3, 1) := by decide +kernel
theorem dL_law_938 : decode cL_law 938 = .ok (.iconst 1, 1) := by decide +kernel
theorem dL_law_939 : decode cL_law 939 = .ok (.iadd, 1) := by decide +kernel
theorem dL_law_940 : decode cL_law 940 = .ok (.iaload, 1) := by decide +kernel
theorem dL_law_941 : decode cL_law 941 = .ok (.aload_n 0, 1) := by decide +kernel
theorem dL_law_942 : decode cL_law 942 = .ok (.iload_n 3, 1) := by decide +kernel
theorem dL_law_943 : decode cL_law 943 = .ok (.iconst 2, 1) := by decide +kernel
theorem dL_law_944 : decode cL_law 944 = .ok (.iadd, 1) := by decide +kernel
theorem dL_law_945 : decode cL_law 945 = .ok (.iaload, 1) := by decide +kernel
theorem dL_law_946 : decode cL_law 946 = .ok (.invokevirtual 119, 3) := by decide +kernel
theorem dL_law_949 : decode cL_law 949 = .ok (.pop, 1) := by decide +kernel
theorem dL_law_950 : decode cL_law 950 = .ok (.aload_n 2, 1) := by decide +kernel
theorem dL_law_951 : decode cL_law 951 = .ok (.aload_n 0, 1) := by decide +kernel
theorem dL_law_952 : decode cL_law 952 = .ok (.iload_n 3, 1) := by decide +kernel
theorem dL_law_953 : decode cL_law 953 = .ok (.iconst 1, 1) := by decide +kernel
theorem dL_law_954 : decode cL_law 954 = .ok (.iadd, 1) := by decide +kernel
theorem dL_law_955 : decode cL_law 955 = .ok (.iaload, 1) := by decide +kernel
theorem dL_law_956 : decode cL_law 956 = .ok (.aload_n 0, 1) := by decide +kernel
theorem dL_law_957 : decode cL_law 957 = .ok (.iload_n 3, 1) := by decide +kernel
theorem dL_law_958 : decode cL_law 958 = .ok (.iconst 2, 1) := by decide +kernel
theorem dL_law_959 : decode cL_law 959 = .ok (.iadd, 1) := by decide +kernel
theorem dL_law_960 : decode cL_law 960 = .ok (.iaload, 1) := by decide +kernel
theorem dL_law_961 : decode cL_law 961 = .ok (.invokevirtual 122, 3) := by decide +kernel
theorem dL_law_964 : decode cL_law 964 = .ok (.pop, 1) := by decide +kernel
theorem dL_law_965 : decode cL_law 965 = .ok (.goto 605, 3) := by decide +kernel
theorem dL_law_968 : decode cL_law 968 = .ok (.aload_n 1, 1) := by decide +kernel
theorem dL_law_969 : decode cL_law 969 = .ok (.aload_n 0, 1) := by decide +kernel
theorem dL_law_970 : decode cL_law 970 = .ok (.iload_n 3, 1) := by decide +kernel
theorem dL_law_971 : decode cL_law 971 = .ok (.iconst 1, 1) := by decide +kernel
theorem dL_law_972 : decode cL_law 972 = .ok (.iadd, 1) := by decide +kernel
theorem dL_law_973 : decode cL_law 973 = .ok (.iaload, 1) := by decide +kernel
theorem dL_law_974 : decode cL_law 974 = .ok (.aload_n 0, 1) := by decide +kernel
theorem dL_law_975 : decode cL_law 975 = .ok (.iload_n 3, 1) := by decide +kernel
theorem dL_law_976 : decode cL_law 976 = .ok (.iconst 2, 1) := by decide +kernel
theorem dL_law_977 : decode cL_law 977 = .ok (.iadd, 1) := by decide +kernel
theorem dL_law_978 : decode cL_law 978 = .ok (.iaload, 1) := by decide +kernel
theorem dL_law_979 : decode cL_law 979 = .ok (.invokevirtual 123, 3) := by decide +kernel
theorem dL_law_982 : decode cL_law 982 = .ok (.pop, 1) := by decide +kernel
theorem dL_law_983 : decode cL_law 983 = .ok (.aload_n 2, 1) := by decide +kernel
theorem dL_law_984 : decode cL_law 984 = .ok (.aload_n 0, 1) := by decide +kernel
theorem dL_law_985 : decode cL_law 985 = .ok (.iload_n 3, 1) := by decide +kernel
theorem dL_law_986 : decode cL_law 986 = .ok (.iconst 1, 1) := by decide +kernel
theorem dL_law_987 : decode cL_law 987 = .ok (.iadd, 1) := by decide +kernel
theorem dL_law_988 : decode cL_law 988 = .ok (.iaload, 1) := by decide +kernel
theorem dL_law_989 : decode cL_law 989 = .ok (.aload_n 0, 1) := by decide +kernel
theorem dL_law_990 : decode cL_law 990 = .ok (.iload_n 3, 1) := by decide +kernel
theorem dL_law_991 : decode cL_law 991 = .ok (.iconst 2, 1) := by decide +kernel
theorem dL_law_992 : decode cL_law 992 = .ok (.iadd, 1) := by decide +kernel
theorem dL_law_993 : decode cL_law 993 = .ok (.iaload, 1) := by decide +kernel
theorem dL_law_994 : decode cL_law 994 = .ok (.invokevirtual 126, 3) := by decide +kernel
theorem dL_law_997 : decode cL_law 997 = .ok (.pop, 1) := by decide +kernel
theorem dL_law_998 : decode cL_law 998 = .ok (.goto 572, 3) := by decide +kernel
theorem dL_law_1001 : decode cL_law 1001 = .ok (.aload_n 1, 1) := by decide +kernel
theorem dL_law_1002 : decode cL_law 1002 = .ok (.aload_n 0, 1) := by decide +kernel
theorem dL_law_1003 : decode cL_law 1003 = .ok (.iload_n 3, 1) := by decide +kernel
theorem dL_law_1004 : decode cL_law 1004 = .ok (.iconst 1, 1) := by decide +kernel
theorem dL_law_1005 : decode cL_law 1005 = .ok (.iadd, 1) := by decide +kernel
theorem dL_law_1006 : decode cL_law 1006 = .ok (.iaload, 1) := by decide +kernel
theorem dL_law_1007 : decode cL_law 1007 = .ok (.aload_n 0, 1) := by decide +kernel
theorem dL_law_1008 : decode cL_law 1008 = .ok (.iload_n 3, 1) := by decide +kernel
theorem dL_law_1009 : decode cL_law 1009 = .ok (.iconst 2, 1) := by decide +kernel
theorem dL_law_1010 : decode cL_law 1010 = .ok (.iadd, 1) := by decide +kernel
theorem dL_law_1011 : decode cL_law 1011 = .ok (.iaload, 1) := by decide +kernel
theorem dL_law_1012 : decode cL_law 1012 = .ok (.invokevirtual 127, 3) := by decide +kernel
theorem dL_law_1015 : decode cL_law 1015 = .ok (.pop, 1) := by decide +kernel
theorem dL_law_1016 : decode cL_law 1016 = .ok (.aload_n 2, 1) := by decide +kernel
theorem dL_law_1017 : decode cL_law 1017 = .ok (.aload_n 0, 1) := by decide +kernel
theorem dL_law_1018 : decode cL_law 1018 = .ok (.iload_n 3, 1) := by decide +kernel
theorem dL_law_1019 : decode cL_law 1019 = .ok (.iconst 1, 1) := by decide +kernel
theorem dL_law_1020 : decode cL_law 1020 = .ok (.iadd, 1) := by decide +kernel
theorem dL_law_1021 : decode cL_law 1021 = .ok (.iaload, 1) := by decide +kernel
theorem dL_law_1022 : decode cL_law 1022 = .ok (.aload_n 0, 1) := by decide +kernel
theorem dL_law_1023 : decode cL_law 1023 = .ok (.iload_n 3, 1) := by decide +kernel
theorem dL_law_1024 : decode cL_law 1024 = .ok (.iconst 2, 1) := by decide +kernel
theorem dL_law_1025 : decode cL_law 1025 = .ok (.iadd, 1) := by decide +kernel
theorem dL_law_1026 : decode cL_law 1026 = .ok (.iaload, 1) := by decide +kernel
theorem dL_law_1027 : decode cL_law 1027 = .ok (.invokevirtual 130, 3) := by decide +kernel
theorem dL_law_1030 : decode cL_law 1030 = .ok (.pop, 1) := by decide +kernel
theorem dL_law_1031 : decode cL_law 1031 = .ok (.goto 539, 3) := by decide +kernel
theorem dL_law_1034 : decode cL_law 1034 = .ok (.aload_n 1, 1) := by decide +kernel
theorem dL_law_1035 : decode cL_law 1035 = .ok (.aload_n 0, 1) := by decide +kernel
theorem dL_law_1036 : decode cL_law 1036 = .ok (.iload_n 3, 1) := by decide +kernel
theorem dL_law_1037 : decode cL_law 1037 = .ok (.iconst 1, 1) := by decide +kernel
theorem dL_law_1038 : decode cL_law 1038 = .ok (.iadd, 1) := by decide +kernel
theorem dL_law_1039 : decode cL_law 1039 = .ok (.iaload, 1) := by decide +kernel
theorem dL_law_1040 : decode cL_law 1040 = .ok (.aload_n 0, 1) := by decide +kernel
theorem dL_law_1041 : decode cL_law 1041 = .ok (.iload_n 3, 1) := by decide +kernel
theorem dL_law_1042 : decode cL_law 1042 = .ok (.iconst 2, 1) := by decide +kernel
theorem dL_law_1043 : decode cL_law 1043 = .ok (.iadd, 1) := by decide +kernel
theorem dL_law_1044 : decode cL_law 1044 = .ok (.iaload, 1) := by decide +kernel
theorem dL_law_1045 : decode cL_law 1045 = .ok (.invokevirtual 131, 3) := by decide +kernel
theorem dL_law_1048 : decode cL_law 1048 = .ok (.pop, 1) := by decide +kernel
theorem dL_law_1049 : decode cL_law 1049 = .ok (.aload_n 2, 1) := by decide +kernel
theorem dL_law_1050 : decode cL_law 1050 = .ok (.aload_n 0, 1) := by decide +kernel
theorem dL_law_1051 : decode cL_law 1051 = .ok (.iload_n 3, 1) := by decide +kernel
theorem dL_law_1052 : decode cL_law 1052 = .ok (.iconst 1, 1) := by decide +kernel
theorem dL_law_1053 : decode cL_law 1053 = .ok (.iadd, 1) := by decide +kernel
theorem dL_law_1054 : decode cL_law 1054 = .ok (.iaload, 1) := by decide +kernel
theorem dL_law_1055 : decode cL_law 1055 = .ok (.aload_n 0, 1) := by decide +kernel
theorem dL_law_1056 : decode cL_law 1056 = .ok (.iload_n 3, 1) := by decide +kernel
theorem dL_law_1057 : decode cL_law 1057 = .ok (.iconst 2, 1) := by decide +kernel
theorem dL_law_1058 : decode cL_law 1058 = .ok (.iadd, 1) := by decide +kernel
theorem dL_law_1059 : decode cL_law 1059 = .ok (.iaload, 1) := by decide +kernel
theorem dL_law_1060 : decode cL_law 1060 = .ok (.invokevirtual 134, 3) := by decide +kernel
theorem dL_law_1063 : decode cL_law 1063 = .ok (.pop, 1) := by decide +kernel
theorem dL_law_1064 : decode cL_law 1064 = .ok (.goto 506, 3) := by decide +kernel
theorem dL_law_1067 : decode cL_law 1067 = .ok (.aload_n 1, 1) := by decide +kernel
theorem dL_law_1068 : decode cL_law 1068 = .ok (.aload_n 0, 1) := by decide +kernel
theorem dL_law_1069 : decode cL_law 1069 = .ok (.iload_n 3, 1) := by decide +kernel
theorem dL_law_1070 : decode cL_law 1070 = .ok (.iconst 1, 1) := by decide +kernel
theorem dL_law_1071 : decode cL_law 1071 = .ok (.iadd, 1) := by decide +kernel
theorem dL_law_1072 : decode cL_law 1072 = .ok (.iaload, 1) := by decide +kernel
theorem dL_law_1073 : decode cL_law 1073 = .ok (.invokevirtual 135, 3) := by decide +kernel
theorem dL_law_1076 : decode cL_law 1076 = .ok (.pop, 1) := by decide +kernel
theorem dL_law_1077 : decode cL_law 1077 = .ok (.aload_n 2, 1) := by decide +kernel
theorem dL_law_1078 : decode cL_law 1078 = .ok (.aload_n 0, 1) := by decide +kernel
theorem dL_law_1079 : decode cL_law 1079 = .ok (.iload_n 3, 1) := by decide +kernel
theorem dL_law_1080 : decode cL_law 1080 = .ok (.iconst 1, 1) := by decide +kernel
theorem dL_law_1081 : decode cL_law 1081 = .ok (.iadd, 1) := by decide +kernel
theorem dL_law_1082 : decode cL_law 1082 = .ok (.iaload, 1) := by decide +kernel
theorem dL_law_1083 : decode cL_law 1083 = .ok (.invokevirtual 138, 3) := by decide +kernel
theorem dL_law_1086 : decode cL_law 1086 = .ok (.pop, 1) := by decide +kernel
theorem dL_law_1087 : decode cL_law 1087 = .ok (.goto 483, 3) := by decide +kernel
theorem dL_law_1090 : decode cL_law 1090 = .ok (.aload_n 1, 1) := by decide +kernel
theorem dL_law_1091 : decode cL_law 1091 = .ok (.aload_n 0, 1) := by decide +kernel
theorem dL_law_1092 : decode cL_law 1092 = .ok (.iload_n 3, 1) := by decide +kernel
theorem dL_law_1093 : decode cL_law 1093 = .ok (.iconst 1, 1) := by decide +kernel
theorem dL_law_1094 : decode cL_law 1094 = .ok (.iadd, 1) := by decide +kernel
theorem dL_law_1095 : decode cL_law 1095 = .ok (.iaload, 1) := by decide +kernel
theorem dL_law_1096 : decode cL_law 1096 = .ok (.aload_n 0, 1) := by decide +kernel
theorem dL_law_1097 : decode cL_law 1097 = .ok (.iload_n 3, 1) := by decide +kernel
theorem dL_law_1098 : decode cL_law 1098 = .ok (.iconst 2, 1) := by decide +kernel
theorem dL_law_1099 : decode cL_law 1099 = .ok (.iadd, 1) := by decide +kernel
theorem dL_law_1100 : decode cL_law 1100 = .ok (.iaload, 1) := by decide +kernel
theorem dL_law_1101 : decode cL_law 1101 = .ok (.invokevirtual 139, 3) := by decide +kernel
theorem dL_law_1104 : decode cL_law 1104 = .ok (.pop, 1) := by decide +kernel
theorem dL_law_1105 : decode cL_law 1105 = .ok (.aload_n 2, 1) := by decide +kernel
theorem dL_law_1106 : decode cL_law 1106 = .ok (.aload_n 0, 1) := by decide +kernel
theorem dL_law_1107 : decode cL_law 1107 = .ok (.iload_n 3, 1) := by decide +kernel
theorem dL_law_1108 : decode cL_law 1108 = .ok (.iconst 1, 1) := by decide +kernel
theorem dL_law_1109 : decode cL_law 1109 = .ok (.iadd, 1) := by decide +kernel
theorem dL_law_1110 : decode cL_law 1110 = .ok (.iaload, 1) := by decide +kernel
theorem dL_law_1111 : decode cL_law 1111 = .ok (.aload_n 0, 1) := by decide +kernel
theorem dL_law_1112 : decode cL_law 1112 = .ok (.iload_n 3, 1) := by decide +kernel
theorem dL_law_1113 : decode cL_law 1113 = .ok (.iconst 2, 1) := by decide +kernel
theorem dL_law_1114 : decode cL_law 1114 = .ok (.iadd, 1) := by decide +kernel
theorem dL_law_1115 : decode cL_law 1115 = .ok (.iaload, 1) := by decide +kernel
theorem dL_law_1116 : decode cL_law 1116 = .ok (.invokevirtual 142, 3) := by decide +kernel
theorem dL_law_1119 : decode cL_law 1119 = .ok (.pop, 1) := by decide +kernel
theorem dL_law_1120 : decode cL_law 1120 = .ok (.goto 450, 3) := by decide +kernel
theorem dL_law_1123 : decode cL_law 1123 = .ok (.aload_n 1, 1) := by decide +kernel
theorem dL_law_1124 : decode cL_law 1124 = .ok (.aload_n 0, 1) := by decide +kernel
theorem dL_law_1125 : decode cL_law 1125 = .ok (.iload_n 3, 1) := by decide +kernel
theorem dL_law_1126 : decode cL_law 1126 = .ok (.iconst 1, 1) := by decide +kernel
theorem dL_law_1127 : decode cL_law 1127 = .ok (.iadd, 1) := by decide +kernel
theorem dL_law_1128 : decode cL_law 1128 = .ok (.iaload, 1) := by decide +kernel
theorem dL_law_1129 : decode cL_law 1129 = .ok (.aload_n 0, 1) := by decide +kernel
theorem dL_law_1130 : decode cL_law 1130 = .ok (.iload_n 3, 1) := by decide +kernel
theorem dL_law_1131 : decode cL_law 1131 = .ok (.iconst 2, 1) := by decide +kernel
theorem dL_law_1132 : decode cL_law 1132 = .ok (.iadd, 1) := by decide +kernel
theorem dL_law_1133 : decode cL_law 1133 = .ok (.iaload, 1) := by decide +kernel
theorem dL_law_1134 : decode cL_law 1134 = .ok (.invokevirtual 143, 3) := by decide +kernel
theorem dL_law_1137 : decode cL_law 1137 = .ok (.pop, 1) := by decide +kernel
theorem dL_law_1138 : decode cL_law 1138 = .ok (.aload_n 2, 1) := by decide +kernel
theorem dL_law_1139 : decode cL_law 1139 = .ok (.aload_n 0, 1) := by decide +kernel
theorem dL_law_1140 : decode cL_law 1140 = .ok (.iload_n 3, 1) := by decide +kernel
theorem dL_law_1141 : decode cL_law 1141 = .ok (.iconst 1, 1) := by decide +kernel
theorem dL_law_1142 : decode cL_law 1142 = .ok (.iadd, 1) := by decide +kernel
theorem dL_law_1143 : decode cL_law 1143 = .ok (.iaload, 1) := by decide +kernel
theorem dL_law_1144 : decode cL_law 1144 = .ok (.aload_n 0, 1) := by decide +kernel
theorem dL_law_1145 : decode cL_law 1145 = .ok (.iload_n 3, 1) := by decide +kernel
theorem dL_law_1146 : decode cL_law 1146 = .ok (.iconst 2, 1) := by decide +kernel
theorem dL_law_1147 : decode cL_law 1147 = .ok (.iadd, 1) := by decide +kernel
theorem dL_law_1148 : decode cL_law 1148 = .ok (.iaload, 1) := by decide +kernel
theorem dL_law_1149 : decode cL_law 1149 = .ok (.invokevirtual 146, 3) := by decide +kernel
theorem dL_law_1152 : decode cL_law 1152 = .ok (.pop, 1) := by decide +kernel
theorem dL_law_1153 : decode cL_law 1153 = .ok (.goto 417, 3) := by decide +kernel
theorem dL_law_1156 : decode cL_law 1156 = .ok (.aload_n 1, 1) := by decide +kernel
theorem dL_law_1157 : decode cL_law 1157 = .ok (.aload_n 0, 1) := by decide +kernel
theorem dL_law_1158 : decode cL_law 1158 = .ok (.iload_n 3, 1) := by decide +kernel
theorem dL_law_1159 : decode cL_law 1159 = .ok (.iconst 1, 1) := by decide +kernel
theorem dL_law_1160 : decode cL_law 1160 = .ok (.iadd, 1) := by decide +kernel
theorem dL_law_1161 : decode cL_law 1161 = .ok (.iaload, 1) := by decide +kernel
theorem dL_law_1162 : decode cL_law 1162 = .ok (.invokevirtual 147, 3) := by decide +kernel
theorem dL_law_1165 : decode cL_law 1165 = .ok (.pop, 1) := by decide +kernel
theorem dL_law_1166 : decode cL_law 1166 = .ok (.aload_n 2, 1) := by decide +kernel
theorem dL_law_1167 : decode cL_law 1167 = .ok (.aload_n 0, 1) := by decide +kernel
theorem dL_law_1168 : decode cL_law 1168 = .ok (.iload_n 3, 1) := by decide +kernel
theorem dL_law_1169 : decode cL_law 1169 = .ok (.iconst 1, 1) := by decide +kernel
theorem dL_law_1170 : decode cL_law 1170 = .ok (.iadd, 1) := by decide +kernel
theorem dL_law_1171 : decode cL_law 1171 = .ok (.iaload, 1) := by decide +kernel
theorem dL_law_1172 : decode cL_law 1172 = .ok (.invokevirtual 150, 3) := by decide +kernel
theorem dL_law_1175 : decode cL_law 1175 = .ok (.pop, 1) := by decide +kernel
theorem dL_law_1176 : decode cL_law 1176 = .ok (.goto 394, 3) := by decide +kernel
theorem dL_law_1179 : decode cL_law 1179 = .ok (.aload_n 1, 1) := by decide +kernel
theorem dL_law_1180 : decode cL_law 1180 = .ok (.aload_n 0, 1) := by decide +kernel
theorem dL_law_1181 : decode cL_law 1181 = .ok (.iload_n 3, 1) := by decide +kernel
theorem dL_law_1182 : decode cL_law 1182 = .ok (.iconst 1, 1) := by decide +kernel
theorem dL_law_1183 : decode cL_law 1183 = .ok (.iadd, 1) := by decide +kernel
theorem dL_law_1184 : decode cL_law 1184 = .ok (.iaload, 1) := by decide +kernel
theorem dL_law_1185 : decode cL_law 1185 = .ok (.invokevirtual 151, 3) := by decide +kernel
theorem dL_law_1188 : decode cL_law 1188 = .ok (.pop, 1) := by decide +kernel
theorem dL_law_1189 : decode cL_law 1189 = .ok (.aload_n 2, 1) := by decide +kernel
theorem dL_law_1190 : decode cL_law 1190 = .ok (.aload_n 0, 1) := by decide +kernel
theorem dL_law_1191 : decode cL_law 1191 = .ok (.iload_n 3, 1) := by decide +kernel
theorem dL_law_1192 : decode cL_law 1192 = .ok (.iconst 1, 1) := by decide +kernel
theorem dL_law_1193 : decode cL_law 1193 = .ok (.iadd, 1) := by decide +kernel
theorem dL_law_1194 : decode cL_law 1194 = .ok (.iaload, 1) := by decide +kernel
theorem dL_law_1195 : decode cL_law 1195 = .ok (.invokevirtual 154, 3) := by decide +kernel
theorem dL_law_1198 : decode cL_law 1198 = .ok (.pop, 1) := by decide +kernel
theorem dL_law_1199 : decode cL_law 1199 = .ok (.goto 371, 3) := by decide +kernel
theorem dL_law_1202 : decode cL_law 1202 = .ok (.aload_n 1, 1) := by decide +kernel
theorem dL_law_1203 : decode cL_law 1203 = .ok (.aload_n 0, 1) := by decide +kernel
theorem dL_law_1204 : decode cL_law 1204 = .ok (.iload_n 3, 1) := by decide +kernel
theorem dL_law_1205 : decode cL_law 1205 = .ok (.iconst 1, 1) := by decide +kernel
theorem dL_law_1206 : decode cL_law 1206 = .ok (.iadd, 1) := by decide +kernel
theorem dL_law_1207 : decode cL_law 1207 = .ok (.iaload, 1) := by decide +kernel
theorem dL_law_1208 : decode cL_law 1208 = .ok (.aload_n 0, 1) := by decide +kernel
theorem dL_law_1209 : decode cL_law 1209 = .ok (.iload_n 3, 1) := by decide +kernel
theorem dL_law_1210 : decode cL_law 1210 = .ok (.iconst 2, 1) := by decide +kernel
theorem dL_law_1211 : decode cL_law 1211 = .ok (.iadd, 1) := by decide +kernel
theorem dL_law_1212 : decode cL_law 1212 = .ok (.iaload, 1) := by decide +kernel
theorem dL_law_1213 : decode cL_law 1213 = .ok (.invokevirtual 155, 3) := by decide +kernel
theorem dL_law_1216 : decode cL_law 1216 = .ok (.pop, 1) := by decide +kernel
theorem dL_law_1217 : decode cL_law 1217 = .ok (.aload_n 2, 1) := by decide +kernel
theorem dL_law_1218 : decode cL_law 1218 = .ok (.aload_n 0, 1) := by decide +kernel
theorem dL_law_1219 : decode cL_law 1219 = .ok (.iload_n 3, 1) := by decide +kernel
theorem dL_law_1220 : decode cL_law 1220 = .ok (.iconst 1, 1) := by decide +kernel
theorem dL_law_1221 : decode cL_law 1221 = .ok (.iadd, 1) := by decide +kernel
theorem dL_law_1222 : decode cL_law 1222 = .ok (.iaload, 1) := by decide +kernel
theorem dL_law_1223 : decode cL_law 1223 = .ok (.aload_n 0, 1) := by decide +kernel
theorem dL_law_1224 : decode cL_law 1224 = .ok (.iload_n 3, 1) := by decide +kernel
theorem dL_law_1225 : decode cL_law 1225 = .ok (.iconst 2, 1) := by decide +kernel
theorem dL_law_1226 : decode cL_law 1226 = .ok (.iadd, 1) := by decide +kernel
theorem dL_law_1227 : decode cL_law 1227 = .ok (.iaload, 1) := by decide +kernel
theorem dL_law_1228 : decode cL_law 1228 = .ok (.invokevirtual 158, 3) := by decide +kernel
theorem dL_law_1231 : decode cL_law 1231 = .ok (.pop, 1) := by decide +kernel
theorem dL_law_1232 : decode cL_law 1232 = .ok (.goto 338, 3) := by decide +kernel
theorem dL_law_1235 : decode cL_law 1235 = .ok (.aload_n 1, 1) := by decide +kernel
theorem dL_law_1236 : decode cL_law 1236 = .ok (.invokevirtual 159, 3) := by decide +kernel
theorem dL_law_1239 : decode cL_law 1239 = .ok (.pop, 1) := by decide +kernel
theorem dL_law_1240 : decode cL_law 1240 = .ok (.aload_n 2, 1) := by decide +kernel
theorem dL_law_1241 : decode cL_law 1241 = .ok (.invokevirtual 162, 3) := by decide +kernel
theorem dL_law_1244 : decode cL_law 1244 = .ok (.pop, 1) := by decide +kernel
theorem dL_law_1245 : decode cL_law 1245 = .ok (.goto 325, 3) := by decide +kernel
set_option maxRecDepth 100000 in
set_option maxHeartbeats 4000000 in
theorem law_c24 {p : Program} {l : Launch} {e : Env} {s : State} {m : MethodId} {below : List Frame} {meth : Method} {c : Code} {b L x0 m0 : Nat} {xs : Nat → Int32} {i : Int} {E : (Nat → Prop) → State → Prop} {cy : Nat → ClassId} {D : va_G} (C : gC p s m #[Value.ref b] c code 4 RL) (hXX : fxX E D cy) (hEs : E (fun q : Nat => s.heap.size ≤ q) s) (hX : va_X b L xs s s.heap) (hbl : b < s.heap.size) (hL : L ≤ 3072) (hi : 0 ≤ i) (hi6 : i + 6 ≤ L) (kk : lawG p l e s m below meth c b 1570 [(0, .ref b), (1, .ref x0), (2, .ref m0), (3, zv i)] [] (lP cy D (fun q : Nat => s.heap.size ≤ q) s.heap x0 m0)) : lawG p l e s m below meth c b 902 [(0, .ref b), (1, .ref x0), (2, .ref m0), (3, zv i)] [] (lP cy D (fun q : Nat => s.heap.size ≤ q) s.heap x0 m0) := by
  have hE := hXX.1
  have hA : ∀ q : Nat, s.heap.size ≤ q → (fun q : Nat => s.heap.size ≤ q) q := fun _ h => h
  have hbA : ¬ (fun q : Nat => s.heap.size ≤ q) b := Nat.not_le.mpr hbl
  refine l_ex (fun t => ?_)
  refine gq_aln C 1 dL_law_902 rfl rfl rfl ?_
  refine gq_aln C 0 dL_law_903 rfl rfl rfl ?_
  refine gq_iln C 3 dL_law_904 rfl rfl rfl ?_
  refine gq_ic C dL_law_905 rfl ?_
  refine gq_add C dL_law_906 rfl ?_
  refine l_sld C hX hbl hbA hL (by omega) (by omega) dL_law_907 rfl ?_
  refine gq_aln C 0 dL_law_908 rfl rfl rfl ?_
  refine gq_iln C 3 dL_law_909 rfl rfl rfl ?_
  refine gq_ic C dL_law_910 rfl ?_
  refine gq_add C dL_law_911 rfl ?_
  refine l_sld C hX hbl hbA hL (by omega) (by omega) dL_law_912 rfl ?_
  refine l_x (ts := [.inl (-2147483648, 2147483647), .inl (-2147483648, 2147483647)]) (As := [zv (xs (Int.toNat (i + 1))).toInt, zv (xs (Int.toNat (i + 2))).toInt]) (rest := []) C hE hEs rfl hA (fun gx ax => kx217 hXX) rfl ⟨by decide, by decide⟩ rfl (fun gs ad => ⟨ok_top _, ok_top _, trivial⟩) (ret_ok rfl) ⟨Nat.le_of_ble_eq_true rfl, Nat.le_of_ble_eq_true rfl⟩ ⟨Nat.le_of_ble_eq_true rfl, Nat.le_of_ble_eq_true rfl⟩ iV_X11_common g_L_115 dL_law_913 rfl rfl (Nat.le_of_ble_eq_true rfl) rfl (fun z913 => ?_)
  refine gq_pop C dL_law_916 rfl rfl ?_
  refine gq_aln C 2 dL_law_917 rfl rfl rfl ?_
  refine gq_aln C 0 dL_law_918 rfl rfl rfl ?_
  refine gq_iln C 3 dL_law_919 rfl rfl rfl ?_
  refine gq_ic C dL_law_920 rfl ?_
  refine gq_add C dL_law_921 rfl ?_
  refine l_sld C hX hbl hbA hL (by omega) (by omega) dL_law_922 rfl ?_
  refine gq_aln C 0 dL_law_923 rfl rfl rfl ?_
  refine gq_iln C 3 dL_law_924 rfl rfl rfl ?_
  refine gq_ic C dL_law_925 rfl ?_
  refine gq_add C dL_law_926 rfl ?_
  refine l_sld C hX hbl hbA hL (by omega) (by omega) dL_law_927 rfl ?_
  refine l_m (As := [zv (xs (Int.toNat (i + 1))).toInt, zv (xs (Int.toNat (i + 2))).toInt]) (rest := []) C hE hEs rfl hA (mc_fx (fun am => km321 hE) rfl (by decide +kernel) ⟨by decide, by decide, by decide⟩ (fun am ha => (show fx_ty _ am [.inr (.inr 1), .inl (-2147483648, 2147483647), .inl (-2147483648, 2147483647)] [.ref m0, zv (xs (Int.toNat (i + 1))).toInt, zv (xs (Int.toNat (i + 2))).toInt] from oks_ok ⟨rt_ok ⟨0, ha, rfl⟩ (by decide), ok_top _, ok_top _, trivial⟩)) (ret_ok rfl)) ⟨Nat.le_of_ble_eq_true rfl, Nat.le_of_ble_eq_true rfl⟩ ⟨Nat.le_of_ble_eq_true rfl, Nat.le_of_ble_eq_true rfl⟩ iV_X12_common g_L_118 dL_law_928 rfl rfl (Nat.le_of_ble_eq_true rfl) rfl (fun z928 => ?_)
  refine gq_pop C dL_law_931 rfl rfl ?_
  refine gq_goto C 1570 dL_law_932 (by decide) ?_
  exact l_in kk
set_option maxRecDepth 100000 in
set_option maxHeartbeats 4000000 in
theorem law_c25 {p : Program} {l : Launch} {e : Env} {s : State} {m : MethodId} {below : List Frame} {meth : Method} {c : Code} {b L x0 m0 : Nat} {xs : Nat → Int32} {i : Int} {E : (Nat → Prop) → State → Prop} {cy : Nat → ClassId} {D : va_G} (C : gC p s m #[Value.ref b] c code 4 RL) (hXX : fxX E D cy) (hEs : E (fun q : Nat => s.heap.size ≤ q) s) (hX : va_X b L xs s s.heap) (hbl : b < s.heap.size) (hL : L ≤ 3072) (hi : 0 ≤ i) (hi6 : i + 6 ≤ L) (kk : lawG p l e s m below meth c b 1570 [(0, .ref b), (1, .ref x0), (2, .ref m0), (3, zv i)] [] (lP cy D (fun q : Nat => s.heap.size ≤ q) s.heap x0 m0)) : lawG p l e s m below meth c b 935 [(0, .ref b), (1, .ref x0), (2, .ref m0), (3, zv i)] [] (lP cy D (fun q : Nat => s.heap.size ≤ q) s.heap x0 m0) := by
  have hE := hXX.1
  have hA : ∀ q : Nat, s.heap.size ≤ q → (fun q : Nat => s.heap.size ≤ q) q := fun _ h => h
  have hbA : ¬ (fun q : Nat => s.heap.size ≤ q) b := Nat.not_le.mpr hbl
  refine l_ex (fun t => ?_)
  refine gq_aln C 1 dL_law_935 rfl rfl rfl ?_
  refine gq_aln C 0 dL_law_936 rfl rfl rfl ?_
  refine gq_iln C 3 dL_law_937 rfl rfl rfl ?_
  refine gq_ic C dL_law_938 rfl ?_
  refine gq_add C dL_law_939 rfl ?_
  refine l_sld C hX hbl hbA hL (by omega) (by omega) dL_law_940 rfl ?_
  refine gq_aln C 0 dL_law_941 rfl rfl rfl ?_
  refine gq_iln C 3 dL_law_942 rfl rfl rfl ?_
  refine gq_ic C dL_law_943 rfl ?_
  refine gq_add C dL_law_944 rfl ?_
  refine l_sld C hX hbl hbA hL (by omega) (by omega) dL_law_945 rfl ?_
  refine l_x (ts := [.inl (-2147483648, 2147483647), .inl (-2147483648, 2147483647)]) (As := [zv (xs (Int.toNat (i + 1))).toInt, zv (xs (Int.toNat (i + 2))).toInt]) (rest := []) C hE hEs rfl hA (fun gx ax => kx226 hXX) rfl ⟨by decide, by decide⟩ rfl (fun gs ad => ⟨ok_top _, ok_top _, trivial⟩) (ret_ok rfl) ⟨Nat.le_of_ble_eq_true rfl, Nat.le_of_ble_eq_true rfl⟩ ⟨Nat.le_of_ble_eq_true rfl, Nat.le_of_ble_eq_true rfl⟩ iV_X11_keep g_L_119 dL_law_946 rfl rfl (Nat.le_of_ble_eq_true rfl) rfl (fun z946 => ?_)
  refine gq_pop C dL_law_949 rfl rfl ?_
  refine gq_aln C 2 dL_law_950 rfl rfl rfl ?_
  refine gq_aln C 0 dL_law_951 rfl rfl rfl ?_
  refine gq_iln C 3 dL_law_952 rfl rfl rfl ?_
  refine gq_ic C dL_law_953 rfl ?_
  refine gq_add C dL_law_954 rfl ?_
  refine l_sld C hX hbl hbA hL (by omega) (by omega) dL_law_955 rfl ?_
  refine gq_aln C 0 dL_law_956 rfl rfl rfl ?_
  refine gq_iln C 3 dL_law_957 rfl rfl rfl ?_
  refine gq_ic C dL_law_958 rfl ?_
  refine gq_add C dL_law_959 rfl ?_
  refine l_sld C hX hbl hbA hL (by omega) (by omega) dL_law_960 rfl ?_
  refine l_m (As := [zv (xs (Int.toNat (i + 1))).toInt, zv (xs (Int.toNat (i + 2))).toInt]) (rest := []) C hE hEs rfl hA (mc_fx (fun am => km339 hE) rfl (by decide +kernel) ⟨by decide, by decide, by decide⟩ (fun am ha => (show fx_ty _ am [.inr (.inr 1), .inl (-2147483648, 2147483647), .inl (-2147483648, 2147483647)] [.ref m0, zv (xs (Int.toNat (i + 1))).toInt, zv (xs (Int.toNat (i + 2))).toInt] from oks_ok ⟨rt_ok ⟨0, ha, rfl⟩ (by decide), ok_top _, ok_top _, trivial⟩)) (ret_ok rfl)) ⟨Nat.le_of_ble_eq_true rfl, Nat.le_of_ble_eq_true rfl⟩ ⟨Nat.le_of_ble_eq_true rfl, Nat.le_of_ble_eq_true rfl⟩ iV_X12_keep g_L_122 dL_law_961 rfl rfl (Nat.le_of_ble_eq_true rfl) rfl (fun z961 => ?_)
  refine gq_pop C dL_law_964 rfl rfl ?_
  refine gq_goto C 1570 dL_law_965 (by decide) ?_
  exact l_in kk
set_option maxRecDepth 100000 in
set_option maxHeartbeats 4000000 in
theorem law_c26 {p : Program} {l : Launch} {e : Env} {s : State} {m : MethodId} {below : List Frame} {meth : Method} {c : Code} {b L x0 m0 : Nat} {xs : Nat → Int32} {i : Int} {E : (Nat → Prop) → State → Prop} {cy : Nat → ClassId} {D : va_G} (C : gC p s m #[Value.ref b] c code 4 RL) (hXX : fxX E D cy) (hEs : E (fun q : Nat => s.heap.size ≤ q) s) (hX : va_X b L xs s s.heap) (hbl : b < s.heap.size) (hL : L ≤ 3072) (hi : 0 ≤ i) (hi6 : i + 6 ≤ L) (kk : lawG p l e s m below meth c b 1570 [(0, .ref b), (1, .ref x0), (2, .ref m0), (3, zv i)] [] (lP cy D (fun q : Nat => s.heap.size ≤ q) s.heap x0 m0)) : lawG p l e s m below meth c b 968 [(0, .ref b), (1, .ref x0), (2, .ref m0), (3, zv i)] [] (lP cy D (fun q : Nat => s.heap.size ≤ q) s.heap x0 m0) := by
  have hE := hXX.1
  have hA : ∀ q : Nat, s.heap.size ≤ q → (fun q : Nat => s.heap.size ≤ q) q := fun _ h => h
  have hbA : ¬ (fun q : Nat => s.heap.size ≤ q) b := Nat.not_le.mpr hbl
  refine l_ex (fun t => ?_)
  refine gq_aln C 1 dL_law_968 rfl rfl rfl ?_
  refine gq_aln C 0 dL_law_969 rfl rfl rfl ?_
  refine gq_iln C 3 dL_law_970 rfl rfl rfl ?_
  refine gq_ic C dL_law_971 rfl ?_
  refine gq_add C dL_law_972 rfl ?_
  refine l_sld C hX hbl hbA hL (by omega) (by omega) dL_law_973 rfl ?_
  refine gq_aln C 0 dL_law_974 rfl rfl rfl ?_
  refine gq_iln C 3 dL_law_975 rfl rfl rfl ?_
  refine gq_ic C dL_law_976 rfl ?_
  refine gq_add C dL_law_977 rfl ?_
  refine l_sld C hX hbl hbA hL (by omega) (by omega) dL_law_978 rfl ?_
  refine l_x (ts := [.inl (-2147483648, 2147483647), .inl (-2147483648, 2147483647)]) (As := [zv (xs (Int.toNat (i + 1))).toInt, zv (xs (Int.toNat (i + 2))).toInt]) (rest := []) C hE hEs rfl hA (fun gx ax => kx228 hXX) rfl ⟨by decide, by decide⟩ rfl (fun gs ad => ⟨ok_top _, ok_top _, trivial⟩) (ret_ok rfl) ⟨Nat.le_of_ble_eq_true rfl, Nat.le_of_ble_eq_true rfl⟩ ⟨Nat.le_of_ble_eq_true rfl, Nat.le_of_ble_eq_true rfl⟩ iV_X11_mean g_L_123 dL_law_979 rfl rfl (Nat.le_of_ble_eq_true rfl) rfl (fun z979 => ?_)
  refine gq_pop C dL_law_982 rfl rfl ?_
  refine gq_aln C 2 dL_law_983 rfl rfl rfl ?_
  refine gq_aln C 0 dL_law_984 rfl rfl rfl ?_
  refine gq_iln C 3 dL_law_985 rfl rfl rfl ?_
  refine gq_ic C dL_law_986 rfl ?_
  refine gq_add C dL_law_987 rfl ?_
  refine l_sld C hX hbl hbA hL (by omega) (by omega) dL_law_988 rfl ?_
  refine gq_aln C 0 dL_law_989 rfl rfl rfl ?_
  refine gq_iln C 3 dL_law_990 rfl rfl rfl ?_
  refine gq_ic C dL_law_991 rfl ?_
  refine gq_add C dL_law_992 rfl ?_
  refine l_sld C hX hbl hbA hL (by omega) (by omega) dL_law_993 rfl ?_
  refine l_m (As := [zv (xs (Int.toNat (i + 1))).toInt, zv (xs (Int.toNat (i + 2))).toInt]) (rest := []) C hE hEs rfl hA (mc_fx (fun am => km340 hE) rfl (by decide +kernel) ⟨by decide, by decide, by decide⟩ (fun am ha => (show fx_ty _ am [.inr (.inr 1), .inl (-2147483648, 2147483647), .inl (-2147483648, 2147483647)] [.ref m0, zv (xs (Int.toNat (i + 1))).toInt, zv (xs (Int.toNat (i + 2))).toInt] from oks_ok ⟨rt_ok ⟨0, ha, rfl⟩ (by decide), ok_top _, ok_top _, trivial⟩)) (ret_ok rfl)) ⟨Nat.le_of_ble_eq_true rfl, Nat.le_of_ble_eq_true rfl⟩ ⟨Nat.le_of_ble_eq_true rfl, Nat.le_of_ble_eq_true rfl⟩ iV_X12_mean g_L_126 dL_law_994 rfl rfl (Nat.le_of_ble_eq_true rfl) rfl (fun z994 => ?_)
  refine gq_pop C dL_law_997 rfl rfl ?_
  refine gq_goto C 1570 dL_law_998 (by decide) ?_
  exact l_in kk
set_option maxRecDepth 100000 in
set_option maxHeartbeats 4000000 in
theorem law_c27 {p : Program} {l : Launch} {e : Env} {s : State} {m : MethodId} {below : List Frame} {meth : Method} {c : Code} {b L x0 m0 : Nat} {xs : Nat → Int32} {i : Int} {E : (Nat → Prop) → State → Prop} {cy : Nat → ClassId} {D : va_G} (C : gC p s m #[Value.ref b] c code 4 RL) (hXX : fxX E D cy) (hEs : E (fun q : Nat => s.heap.size ≤ q) s) (hX : va_X b L xs s s.heap) (hbl : b < s.heap.size) (hL : L ≤ 3072) (hi : 0 ≤ i) (hi6 : i + 6 ≤ L) (kk : lawG p l e s m below meth c b 1570 [(0, .ref b), (1, .ref x0), (2, .ref m0), (3, zv i)] [] (lP cy D (fun q : Nat => s.heap.size ≤ q) s.heap x0 m0)) : lawG p l e s m below meth c b 1001 [(0, .ref b), (1, .ref x0), (2, .ref m0), (3, zv i)] [] (lP cy D (fun q : Nat => s.heap.size ≤ q) s.heap x0 m0) := by
  have hE := hXX.1
  have hA : ∀ q : Nat, s.heap.size ≤ q → (fun q : Nat => s.heap.size ≤ q) q := fun _ h => h
  have hbA : ¬ (fun q : Nat => s.heap.size ≤ q) b := Nat.not_le.mpr hbl
  refine l_ex (fun t => ?_)
  refine gq_aln C 1 dL_law_1001 rfl rfl rfl ?_
  refine gq_aln C 0 dL_law_1002 rfl rfl rfl ?_
  refine gq_iln C 3 dL_law_1003 rfl rfl rfl ?_
  refine gq_ic C dL_law_1004 rfl ?_
  refine gq_add C dL_law_1005 rfl ?_
  refine l_sld C hX hbl hbA hL (by omega) (by omega) dL_law_1006 rfl ?_
  refine gq_aln C 0 dL_law_1007 rfl rfl rfl ?_
  refine gq_iln C 3 dL_law_1008 rfl rfl rfl ?_
  refine gq_ic C dL_law_1009 rfl ?_
  refine gq_add C dL_law_1010 rfl ?_
  refine l_sld C hX hbl hbA hL (by omega) (by omega) dL_law_1011 rfl ?_
  refine l_x (ts := [.inl (-2147483648, 2147483647), .inl (-2147483648, 2147483647)]) (As := [zv (xs (Int.toNat (i + 1))).toInt, zv (xs (Int.toNat (i + 2))).toInt]) (rest := []) C hE hEs rfl hA (fun gx ax => kx334 hXX) rfl ⟨by decide, by decide⟩ rfl (fun gs ad => ⟨ok_top _, ok_top _, trivial⟩) (ret_ok rfl) ⟨Nat.le_of_ble_eq_true rfl, Nat.le_of_ble_eq_true rfl⟩ ⟨Nat.le_of_ble_eq_true rfl, Nat.le_of_ble_eq_true rfl⟩ iV_X11_duel g_L_127 dL_law_1012 rfl rfl (Nat.le_of_ble_eq_true rfl) rfl (fun z1012 => ?_)
  refine gq_pop C dL_law_1015 rfl rfl ?_
  refine gq_aln C 2 dL_law_1016 rfl rfl rfl ?_
  refine gq_aln C 0 dL_law_1017 rfl rfl rfl ?_
  refine gq_iln C 3 dL_law_1018 rfl rfl rfl ?_
  refine gq_ic C dL_law_1019 rfl ?_
  refine gq_add C dL_law_1020 rfl ?_
  refine l_sld C hX hbl hbA hL (by omega) (by omega) dL_law_1021 rfl ?_
  refine gq_aln C 0 dL_law_1022 rfl rfl rfl ?_
  refine gq_iln C 3 dL_law_1023 rfl rfl rfl ?_
  refine gq_ic C dL_law_1024 rfl ?_
  refine gq_add C dL_law_1025 rfl ?_
  refine l_sld C hX hbl hbA hL (by omega) (by omega) dL_law_1026 rfl ?_
  refine l_m (As := [zv (xs (Int.toNat (i + 1))).toInt, zv (xs (Int.toNat (i + 2))).toInt]) (rest := []) C hE hEs rfl hA (mc_fx (fun am => km342 hE) rfl (by decide +kernel) ⟨by decide, by decide, by decide⟩ (fun am ha => (show fx_ty _ am [.inr (.inr 1), .inl (-2147483648, 2147483647), .inl (-2147483648, 2147483647)] [.ref m0, zv (xs (Int.toNat (i + 1))).toInt, zv (xs (Int.toNat (i + 2))).toInt] from oks_ok ⟨rt_ok ⟨0, ha, rfl⟩ (by decide), ok_top _, ok_top _, trivial⟩)) (ret_ok rfl)) ⟨Nat.le_of_ble_eq_true rfl, Nat.le_of_ble_eq_true rfl⟩ ⟨Nat.le_of_ble_eq_true rfl, Nat.le_of_ble_eq_true rfl⟩ iV_X12_duel g_L_130 dL_law_1027 rfl rfl (Nat.le_of_ble_eq_true rfl) rfl (fun z1027 => ?_)
  refine gq_pop C dL_law_1030 rfl rfl ?_
  refine gq_goto C 1570 dL_law_1031 (by decide) ?_
  exact l_in kk
set_option maxRecDepth 100000 in
set_option maxHeartbeats 4000000 in
theorem law_c28 {p : Program} {l : Launch} {e : Env} {s : State} {m : MethodId} {below : List Frame} {meth : Method} {c : Code} {b L x0 m0 : Nat} {xs : Nat → Int32} {i : Int} {E : (Nat → Prop) → State → Prop} {cy : Nat → ClassId} {D : va_G} (C : gC p s m #[Value.ref b] c code 4 RL) (hXX : fxX E D cy) (hEs : E (fun q : Nat => s.heap.size ≤ q) s) (hX : va_X b L xs s s.heap) (hbl : b < s.heap.size) (hL : L ≤ 3072) (hi : 0 ≤ i) (hi6 : i + 6 ≤ L) (kk : lawG p l e s m below meth c b 1570 [(0, .ref b), (1, .ref x0), (2, .ref m0), (3, zv i)] [] (lP cy D (fun q : Nat => s.heap.size ≤ q) s.heap x0 m0)) : lawG p l e s m below meth c b 1034 [(0, .ref b), (1, .ref x0), (2, .ref m0), (3, zv i)] [] (lP cy D (fun q : Nat => s.heap.size ≤ q) s.heap x0 m0) := by
  have hE := hXX.1
  have hA : ∀ q : Nat, s.heap.size ≤ q → (fun q : Nat => s.heap.size ≤ q) q := fun _ h => h
  have hbA : ¬ (fun q : Nat => s.heap.size ≤ q) b := Nat.not_le.mpr hbl
  refine l_ex (fun t => ?_)
  refine gq_aln C 1 dL_law_1034 rfl rfl rfl ?_
  refine gq_aln C 0 dL_law_1035 rfl rfl rfl ?_
  refine gq_iln C 3 dL_law_1036 rfl rfl rfl ?_
  refine gq_ic C dL_law_1037 rfl ?_
  refine gq_add C dL_law_1038 rfl ?_
  refine l_sld C hX hbl hbA hL (by omega) (by omega) dL_law_1039 rfl ?_
  refine gq_aln C 0 dL_law_1040 rfl rfl rfl ?_
  refine gq_iln C 3 dL_law_1041 rfl rfl rfl ?_
  refine gq_ic C dL_law_1042 rfl ?_
  refine gq_add C dL_law_1043 rfl ?_
  refine l_sld C hX hbl hbA hL (by omega) (by omega) dL_law_1044 rfl ?_
  refine l_x (ts := [.inl (-2147483648, 2147483647), .inl (-2147483648, 2147483647)]) (As := [zv (xs (Int.toNat (i + 1))).toInt, zv (xs (Int.toNat (i + 2))).toInt]) (rest := []) C hE hEs rfl hA (fun gx ax => kx343 hXX) rfl ⟨by decide, by decide⟩ rfl (fun gs ad => ⟨ok_top _, ok_top _, trivial⟩) (ret_ok rfl) ⟨Nat.le_of_ble_eq_true rfl, Nat.le_of_ble_eq_true rfl⟩ ⟨Nat.le_of_ble_eq_true rfl, Nat.le_of_ble_eq_true rfl⟩ iV_X11_apart g_L_131 dL_law_1045 rfl rfl (Nat.le_of_ble_eq_true rfl) rfl (fun z1045 => ?_)
  refine gq_pop C dL_law_1048 rfl rfl ?_
  refine gq_aln C 2 dL_law_1049 rfl rfl rfl ?_
  refine gq_aln C 0 dL_law_1050 rfl rfl rfl ?_
  refine gq_iln C 3 dL_law_1051 rfl rfl rfl ?_
  refine gq_ic C dL_law_1052 rfl ?_
  refine gq_add C dL_law_1053 rfl ?_
  refine l_sld C hX hbl hbA hL (by omega) (by omega) dL_law_1054 rfl ?_
  refine gq_aln C 0 dL_law_1055 rfl rfl rfl ?_
  refine gq_iln C 3 dL_law_1056 rfl rfl rfl ?_
  refine gq_ic C dL_law_1057 rfl ?_
  refine gq_add C dL_law_1058 rfl ?_
  refine l_sld C hX hbl hbA hL (by omega) (by omega) dL_law_1059 rfl ?_
  refine l_m (As := [zv (xs (Int.toNat (i + 1))).toInt, zv (xs (Int.toNat (i + 2))).toInt]) (rest := []) C hE hEs rfl hA (mc_fx (fun am => km73 hE) rfl (by decide +kernel) ⟨by decide, by decide, by decide⟩ (fun am ha => (show fx_ty _ am [.inr (.inr 1), .inl (-2147483648, 2147483647), .inl (-2147483648, 2147483647)] [.ref m0, zv (xs (Int.toNat (i + 1))).toInt, zv (xs (Int.toNat (i + 2))).toInt] from oks_ok ⟨rt_ok ⟨0, ha, rfl⟩ (by decide), ok_top _, ok_top _, trivial⟩)) (ret_ok rfl)) ⟨Nat.le_of_ble_eq_true rfl, Nat.le_of_ble_eq_true rfl⟩ ⟨Nat.le_of_ble_eq_true rfl, Nat.le_of_ble_eq_true rfl⟩ iV_X12_apart g_L_134 dL_law_1060 rfl rfl (Nat.le_of_ble_eq_true rfl) rfl (fun z1060 => ?_)
  refine gq_pop C dL_law_1063 rfl rfl ?_
  refine gq_goto C 1570 dL_law_1064 (by decide) ?_
  exact l_in kk
set_option maxRecDepth 100000 in
set_option maxHeartbeats 4000000 in
theorem law_c29 {p : Program} {l : Launch} {e : Env} {s : State} {m : MethodId} {below : List Frame} {meth : Method} {c : Code} {b L x0 m0 : Nat} {xs : Nat → Int32} {i : Int} {E : (Nat → Prop) → State → Prop} {cy : Nat → ClassId} {D : va_G} (C : gC p s m #[Value.ref b] c code 4 RL) (hXX : fxX E D cy) (hEs : E (fun q : Nat => s.heap.size ≤ q) s) (hX : va_X b L xs s s.heap) (hbl : b < s.heap.size) (hL : L ≤ 3072) (hi : 0 ≤ i) (hi6 : i + 6 ≤ L) (kk : lawG p l e s m below meth c b 1570 [(0, .ref b), (1, .ref x0), (2, .ref m0), (3, zv i)] [] (lP cy D (fun q : Nat => s.heap.size ≤ q) s.heap x0 m0)) : lawG p l e s m below meth c b 1067 [(0, .ref b), (1, .ref x0), (2, .ref m0), (3, zv i)] [] (lP cy D (fun q : Nat => s.heap.size ≤ q) s.heap x0 m0) := by
  have hE := hXX.1
  have hA : ∀ q : Nat, s.heap.size ≤ q → (fun q : Nat => s.heap.size ≤ q) q := fun _ h => h
  have hbA : ¬ (fun q : Nat => s.heap.size ≤ q) b := Nat.not_le.mpr hbl
  refine l_ex (fun t => ?_)
  refine gq_aln C 1 dL_law_1067 rfl rfl rfl ?_
  refine gq_aln C 0 dL_law_1068 rfl rfl rfl ?_
  refine gq_iln C 3 dL_law_1069 rfl rfl rfl ?_
  refine gq_ic C dL_law_1070 rfl ?_
  refine gq_add C dL_law_1071 rfl ?_
  refine l_sld C hX hbl hbA hL (by omega) (by omega) dL_law_1072 rfl ?_
  refine l_x (ts := [.inl (-2147483648, 2147483647)]) (As := [zv (xs (Int.toNat (i + 1))).toInt]) (rest := []) C hE hEs rfl hA (fun gx ax => kx346 hXX) rfl ⟨by decide, by decide⟩ rfl (fun gs ad => ⟨ok_top _, trivial⟩) (ret_ok rfl) ⟨Nat.le_of_ble_eq_true rfl, Nat.le_of_ble_eq_true rfl⟩ ⟨Nat.le_of_ble_eq_true rfl, Nat.le_of_ble_eq_true rfl⟩ iV_X11_strange g_L_135 dL_law_1073 rfl rfl (Nat.le_of_ble_eq_true rfl) rfl (fun z1073 => ?_)
  refine gq_pop C dL_law_1076 rfl rfl ?_
  refine gq_aln C 2 dL_law_1077 rfl rfl rfl ?_
  refine gq_aln C 0 dL_law_1078 rfl rfl rfl ?_
  refine gq_iln C 3 dL_law_1079 rfl rfl rfl ?_
  refine gq_ic C dL_law_1080 rfl ?_
  refine gq_add C dL_law_1081 rfl ?_
  refine l_sld C hX hbl hbA hL (by omega) (by omega) dL_law_1082 rfl ?_
  refine l_m (As := [zv (xs (Int.toNat (i + 1))).toInt]) (rest := []) C hE hEs rfl hA (mc_fx (fun am => km75 hE) rfl (by decide +kernel) ⟨by decide, by decide, by decide⟩ (fun am ha => (show fx_ty _ am [.inr (.inr 1), .inl (-2147483648, 2147483647)] [.ref m0, zv (xs (Int.toNat (i + 1))).toInt] from oks_ok ⟨rt_ok ⟨0, ha, rfl⟩ (by decide), ok_top _, trivial⟩)) (ret_ok rfl)) ⟨Nat.le_of_ble_eq_true rfl, Nat.le_of_ble_eq_true rfl⟩ ⟨Nat.le_of_ble_eq_true rfl, Nat.le_of_ble_eq_true rfl⟩ iV_X12_strange g_L_138 dL_law_1083 rfl rfl (Nat.le_of_ble_eq_true rfl) rfl (fun z1083 => ?_)
  refine gq_pop C dL_law_1086 rfl rfl ?_
  refine gq_goto C 1570 dL_law_1087 (by decide) ?_
  exact l_in kk
set_option maxRecDepth 100000 in
set_option maxHeartbeats 4000000 in
theorem law_c30 {p : Program} {l : Launch} {e : Env} {s : State} {m : MethodId} {below : List Frame} {meth : Method} {c : Code} {b L x0 m0 : Nat} {xs : Nat → Int32} {i : Int} {E : (Nat → Prop) → State → Prop} {cy : Nat → ClassId} {D : va_G} (C : gC p s m #[Value.ref b] c code 4 RL) (hXX : fxX E D cy) (hEs : E (fun q : Nat => s.heap.size ≤ q) s) (hX : va_X b L xs s s.heap) (hbl : b < s.heap.size) (hL : L ≤ 3072) (hi : 0 ≤ i) (hi6 : i + 6 ≤ L) (kk : lawG p l e s m below meth c b 1570 [(0, .ref b), (1, .ref x0), (2, .ref m0), (3, zv i)] [] (lP cy D (fun q : Nat => s.heap.size ≤ q) s.heap x0 m0)) : lawG p l e s m below meth c b 1090 [(0, .ref b), (1, .ref x0), (2, .ref m0), (3, zv i)] [] (lP cy D (fun q : Nat => s.heap.size ≤ q) s.heap x0 m0) := by
  have hE := hXX.1
  have hA : ∀ q : Nat, s.heap.size ≤ q → (fun q : Nat => s.heap.size ≤ q) q := fun _ h => h
  have hbA : ¬ (fun q : Nat => s.heap.size ≤ q) b := Nat.not_le.mpr hbl
  refine l_ex (fun t => ?_)
  refine gq_aln C 1 dL_law_1090 rfl rfl rfl ?_
  refine gq_aln C 0 dL_law_1091 rfl rfl rfl ?_
  refine gq_iln C 3 dL_law_1092 rfl rfl rfl ?_
  refine gq_ic C dL_law_1093 rfl ?_
  refine gq_add C dL_law_1094 rfl ?_
  refine l_sld C hX hbl hbA hL (by omega) (by omega) dL_law_1095 rfl ?_
  refine gq_aln C 0 dL_law_1096 rfl rfl rfl ?_
  refine gq_iln C 3 dL_law_1097 rfl rfl rfl ?_
  refine gq_ic C dL_law_1098 rfl ?_
  refine gq_add C dL_law_1099 rfl ?_
  refine l_sld C hX hbl hbA hL (by omega) (by omega) dL_law_1100 rfl ?_
  refine l_x (ts := [.inl (-2147483648, 2147483647), .inl (-2147483648, 2147483647)]) (As := [zv (xs (Int.toNat (i + 1))).toInt, zv (xs (Int.toNat (i + 2))).toInt]) (rest := []) C hE hEs rfl hA (fun gx ax => kx349 hXX) rfl ⟨by decide, by decide⟩ rfl (fun gs ad => ⟨ok_top _, ok_top _, trivial⟩) (ret_ok rfl) ⟨Nat.le_of_ble_eq_true rfl, Nat.le_of_ble_eq_true rfl⟩ ⟨Nat.le_of_ble_eq_true rfl, Nat.le_of_ble_eq_true rfl⟩ iV_X11_becomes g_L_139 dL_law_1101 rfl rfl (Nat.le_of_ble_eq_true rfl) rfl (fun z1101 => ?_)
  refine gq_pop C dL_law_1104 rfl rfl ?_
  refine gq_aln C 2 dL_law_1105 rfl rfl rfl ?_
  refine gq_aln C 0 dL_law_1106 rfl rfl rfl ?_
  refine gq_iln C 3 dL_law_1107 rfl rfl rfl ?_
  refine gq_ic C dL_law_1108 rfl ?_
  refine gq_add C dL_law_1109 rfl ?_
  refine l_sld C hX hbl hbA hL (by omega) (by omega) dL_law_1110 rfl ?_
  refine gq_aln C 0 dL_law_1111 rfl rfl rfl ?_
  refine gq_iln C 3 dL_law_1112 rfl rfl rfl ?_
  refine gq_ic C dL_law_1113 rfl ?_
  refine gq_add C dL_law_1114 rfl ?_
  refine l_sld C hX hbl hbA hL (by omega) (by omega) dL_law_1115 rfl ?_
  refine l_m (As := [zv (xs (Int.toNat (i + 1))).toInt, zv (xs (Int.toNat (i + 2))).toInt]) (rest := []) C hE hEs rfl hA (mc_fxI (fun am => km367 hE) rfl ⟨by decide, by decide, by decide⟩ (fun am ha => (show fx_ty _ am [.inr (.inr 1), .inl (-2147483648, 2147483647), .inl (-2147483648, 2147483647)] [.ref m0, zv (xs (Int.toNat (i + 1))).toInt, zv (xs (Int.toNat (i + 2))).toInt] from oks_ok ⟨rt_ok ⟨0, ha, rfl⟩ (by decide), ok_top _, ok_top _, trivial⟩)) (ret_ok rfl)) ⟨Nat.le_of_ble_eq_true rfl, Nat.le_of_ble_eq_true rfl⟩ ⟨Nat.le_of_ble_eq_true rfl, Nat.le_of_ble_eq_true rfl⟩ iV_X12_becomes g_L_142 dL_law_1116 rfl rfl (Nat.le_of_ble_eq_true rfl) rfl (fun z1116 => ?_)
  refine gq_pop C dL_law_1119 rfl rfl ?_
  refine gq_goto C 1570 dL_law_1120 (by decide) ?_
  exact l_in kk
set_option maxRecDepth 100000 in
set_option maxHeartbeats 4000000 in
theorem law_c31 {p : Program} {l : Launch} {e : Env} {s : State} {m : MethodId} {below : List Frame} {meth : Method} {c : Code} {b L x0 m0 : Nat} {xs : Nat → Int32} {i : Int} {E : (Nat → Prop) → State → Prop} {cy : Nat → ClassId} {D : va_G} (C : gC p s m #[Value.ref b] c code 4 RL) (hXX : fxX E D cy) (hEs : E (fun q : Nat => s.heap.size ≤ q) s) (hX : va_X b L xs s s.heap) (hbl : b < s.heap.size) (hL : L ≤ 3072) (hi : 0 ≤ i) (hi6 : i + 6 ≤ L) (kk : lawG p l e s m below meth c b 1570 [(0, .ref b), (1, .ref x0), (2, .ref m0), (3, zv i)] [] (lP cy D (fun q : Nat => s.heap.size ≤ q) s.heap x0 m0)) : lawG p l e s m below meth c b 1123 [(0, .ref b), (1, .ref x0), (2, .ref m0), (3, zv i)] [] (lP cy D (fun q : Nat => s.heap.size ≤ q) s.heap x0 m0) := by
  have hE := hXX.1
  have hA : ∀ q : Nat, s.heap.size ≤ q → (fun q : Nat => s.heap.size ≤ q) q := fun _ h => h
  have hbA : ¬ (fun q : Nat => s.heap.size ≤ q) b := Nat.not_le.mpr hbl
  refine l_ex (fun t => ?_)
  refine gq_aln C 1 dL_law_1123 rfl rfl rfl ?_
  refine gq_aln C 0 dL_law_1124 rfl rfl rfl ?_
  refine gq_iln C 3 dL_law_1125 rfl rfl rfl ?_
  refine gq_ic C dL_law_1126 rfl ?_
  refine gq_add C dL_law_1127 rfl ?_
  refine l_sld C hX hbl hbA hL (by omega) (by omega) dL_law_1128 rfl ?_
  refine gq_aln C 0 dL_law_1129 rfl rfl rfl ?_
  refine gq_iln C 3 dL_law_1130 rfl rfl rfl ?_
  refine gq_ic C dL_law_1131 rfl ?_
  refine gq_add C dL_law_1132 rfl ?_
  refine l_sld C hX hbl hbA hL (by omega) (by omega) dL_law_1133 rfl ?_
  refine l_x (ts := [.inl (-2147483648, 2147483647), .inl (-2147483648, 2147483647)]) (As := [zv (xs (Int.toNat (i + 1))).toInt, zv (xs (Int.toNat (i + 2))).toInt]) (rest := []) C hE hEs rfl hA (fun gx ax => kx351 hXX) rfl ⟨by decide, by decide⟩ rfl (fun gs ad => ⟨ok_top _, ok_top _, trivial⟩) (ret_ok rfl) ⟨Nat.le_of_ble_eq_true rfl, Nat.le_of_ble_eq_true rfl⟩ ⟨Nat.le_of_ble_eq_true rfl, Nat.le_of_ble_eq_true rfl⟩ iV_X11_will g_L_143 dL_law_1134 rfl rfl (Nat.le_of_ble_eq_true rfl) rfl (fun z1134 => ?_)
  refine gq_pop C dL_law_1137 rfl rfl ?_
  refine gq_aln C 2 dL_law_1138 rfl rfl rfl ?_
  refine gq_aln C 0 dL_law_1139 rfl rfl rfl ?_
  refine gq_iln C 3 dL_law_1140 rfl rfl rfl ?_
  refine gq_ic C dL_law_1141 rfl ?_
  refine gq_add C dL_law_1142 rfl ?_
  refine l_sld C hX hbl hbA hL (by omega) (by omega) dL_law_1143 rfl ?_
  refine gq_aln C 0 dL_law_1144 rfl rfl rfl ?_
  refine gq_iln C 3 dL_law_1145 rfl rfl rfl ?_
  refine gq_ic C dL_law_1146 rfl ?_
  refine gq_add C dL_law_1147 rfl ?_
  refine l_sld C hX hbl hbA hL (by omega) (by omega) dL_law_1148 rfl ?_
  refine l_m (As := [zv (xs (Int.toNat (i + 1))).toInt, zv (xs (Int.toNat (i + 2))).toInt]) (rest := []) C hE hEs rfl hA (mc_fxI (fun am => km368 hE) rfl ⟨by decide, by decide, by decide⟩ (fun am ha => (show fx_ty _ am [.inr (.inr 1), .inl (-2147483648, 2147483647), .inl (-2147483648, 2147483647)] [.ref m0, zv (xs (Int.toNat (i + 1))).toInt, zv (xs (Int.toNat (i + 2))).toInt] from oks_ok ⟨rt_ok ⟨0, ha, rfl⟩ (by decide), ok_top _, ok_top _, trivial⟩)) (ret_ok rfl)) ⟨Nat.le_of_ble_eq_true rfl, Nat.le_of_ble_eq_true rfl⟩ ⟨Nat.le_of_ble_eq_true rfl, Nat.le_of_ble_eq_true rfl⟩ iV_X12_will g_L_146 dL_law_1149 rfl rfl (Nat.le_of_ble_eq_true rfl) rfl (fun z1149 => ?_)
  refine gq_pop C dL_law_1152 rfl rfl ?_
  refine gq_goto C 1570 dL_law_1153 (by decide) ?_
  exact l_in kk
set_option maxRecDepth 100000 in
set_option maxHeartbeats 4000000 in
theorem law_c32 {p : Program} {l : Launch} {e : Env} {s : State} {m : MethodId} {below : List Frame} {meth : Method} {c : Code} {b L x0 m0 : Nat} {xs : Nat → Int32} {i : Int} {E : (Nat → Prop) → State → Prop} {cy : Nat → ClassId} {D : va_G} (C : gC p s m #[Value.ref b] c code 4 RL) (hXX : fxX E D cy) (hEs : E (fun q : Nat => s.heap.size ≤ q) s) (hX : va_X b L xs s s.heap) (hbl : b < s.heap.size) (hL : L ≤ 3072) (hi : 0 ≤ i) (hi6 : i + 6 ≤ L) (kk : lawG p l e s m below meth c b 1570 [(0, .ref b), (1, .ref x0), (2, .ref m0), (3, zv i)] [] (lP cy D (fun q : Nat => s.heap.size ≤ q) s.heap x0 m0)) : lawG p l e s m below meth c b 1156 [(0, .ref b), (1, .ref x0), (2, .ref m0), (3, zv i)] [] (lP cy D (fun q : Nat => s.heap.size ≤ q) s.heap x0 m0) := by
  have hE := hXX.1
  have hA : ∀ q : Nat, s.heap.size ≤ q → (fun q : Nat => s.heap.size ≤ q) q := fun _ h => h
  have hbA : ¬ (fun q : Nat => s.heap.size ≤ q) b := Nat.not_le.mpr hbl
  refine l_ex (fun t => ?_)
  refine gq_aln C 1 dL_law_1156 rfl rfl rfl ?_
  refine gq_aln C 0 dL_law_1157 rfl rfl rfl ?_
  refine gq_iln C 3 dL_law_1158 rfl rfl rfl ?_
  refine gq_ic C dL_law_1159 rfl ?_
  refine gq_add C dL_law_1160 rfl ?_
  refine l_sld C hX hbl hbA hL (by omega) (by omega) dL_law_1161 rfl ?_
  refine l_x (ts := [.inl (-2147483648, 2147483647)]) (As := [zv (xs (Int.toNat (i + 1))).toInt]) (rest := []) C hE hEs rfl hA (fun gx ax => kx352 hXX) rfl ⟨by decide, by decide⟩ rfl (fun gs ad => ⟨ok_top _, trivial⟩) (ret_ok rfl) ⟨Nat.le_of_ble_eq_true rfl, Nat.le_of_ble_eq_true rfl⟩ ⟨Nat.le_of_ble_eq_true rfl, Nat.le_of_ble_eq_true rfl⟩ iV_X11_last g_L_147 dL_law_1162 rfl rfl (Nat.le_of_ble_eq_true rfl) rfl (fun z1162 => ?_)
  refine gq_pop C dL_law_1165 rfl rfl ?_
  refine gq_aln C 2 dL_law_1166 rfl rfl rfl ?_
  refine gq_aln C 0 dL_law_1167 rfl rfl rfl ?_
  refine gq_iln C 3 dL_law_1168 rfl rfl rfl ?_
  refine gq_ic C dL_law_1169 rfl ?_
  refine gq_add C dL_law_1170 rfl ?_
  refine l_sld C hX hbl hbA hL (by omega) (by omega) dL_law_1171 rfl ?_
  refine l_m (As := [zv (xs (Int.toNat (i + 1))).toInt]) (rest := []) C hE hEs rfl hA (mc_fxI (fun am => km369 hE) rfl ⟨by decide, by decide, by decide⟩ (fun am ha => (show fx_ty _ am [.inr (.inr 1), .inl (-2147483648, 2147483647)] [.ref m0, zv (xs (Int.toNat (i + 1))).toInt] from oks_ok ⟨rt_ok ⟨0, ha, rfl⟩ (by decide), ok_top _, trivial⟩)) (ret_ok rfl)) ⟨Nat.le_of_ble_eq_true rfl, Nat.le_of_ble_eq_true rfl⟩ ⟨Nat.le_of_ble_eq_true rfl, Nat.le_of_ble_eq_true rfl⟩ iV_X12_last g_L_150 dL_law_1172 rfl rfl (Nat.le_of_ble_eq_true rfl) rfl (fun z1172 => ?_)
  refine gq_pop C dL_law_1175 rfl rfl ?_
  refine gq_goto C 1570 dL_law_1176 (by decide) ?_
  exact l_in kk
set_option maxRecDepth 100000 in
set_option maxHeartbeats 4000000 in
theorem law_c33 {p : Program} {l : Launch} {e : Env} {s : State} {m : MethodId} {below : List Frame} {meth : Method} {c : Code} {b L x0 m0 : Nat} {xs : Nat → Int32} {i : Int} {E : (Nat → Prop) → State → Prop} {cy : Nat → ClassId} {D : va_G} (C : gC p s m #[Value.ref b] c code 4 RL) (hXX : fxX E D cy) (hEs : E (fun q : Nat => s.heap.size ≤ q) s) (hX : va_X b L xs s s.heap) (hbl : b < s.heap.size) (hL : L ≤ 3072) (hi : 0 ≤ i) (hi6 : i + 6 ≤ L) (kk : lawG p l e s m below meth c b 1570 [(0, .ref b), (1, .ref x0), (2, .ref m0), (3, zv i)] [] (lP cy D (fun q : Nat => s.heap.size ≤ q) s.heap x0 m0)) : lawG p l e s m below meth c b 1179 [(0, .ref b), (1, .ref x0), (2, .ref m0), (3, zv i)] [] (lP cy D (fun q : Nat => s.heap.size ≤ q) s.heap x0 m0) := by
  have hE := hXX.1
  have hA : ∀ q : Nat, s.heap.size ≤ q → (fun q : Nat => s.heap.size ≤ q) q := fun _ h => h
  have hbA : ¬ (fun q : Nat => s.heap.size ≤ q) b := Nat.not_le.mpr hbl
  refine l_ex (fun t => ?_)
  refine gq_aln C 1 dL_law_1179 rfl rfl rfl ?_
  refine gq_aln C 0 dL_law_1180 rfl rfl rfl ?_
  refine gq_iln C 3 dL_law_1181 rfl rfl rfl ?_
  refine gq_ic C dL_law_1182 rfl ?_
  refine gq_add C dL_law_1183 rfl ?_
  refine l_sld C hX hbl hbA hL (by omega) (by omega) dL_law_1184 rfl ?_
  refine l_x (ts := [.inl (-2147483648, 2147483647)]) (As := [zv (xs (Int.toNat (i + 1))).toInt]) (rest := []) C hE hEs rfl hA (fun gx ax => kx355 hXX) rfl ⟨by decide, by decide⟩ rfl (fun gs ad => ⟨ok_top _, trivial⟩) (ret_ok rfl) ⟨Nat.le_of_ble_eq_true rfl, Nat.le_of_ble_eq_true rfl⟩ ⟨Nat.le_of_ble_eq_true rfl, Nat.le_of_ble_eq_true rfl⟩ iV_X11_mark g_L_151 dL_law_1185 rfl rfl (Nat.le_of_ble_eq_true rfl) rfl (fun z1185 => ?_)
  refine gq_pop C dL_law_1188 rfl rfl ?_
  refine gq_aln C 2 dL_law_1189 rfl rfl rfl ?_
  refine gq_aln C 0 dL_law_1190 rfl rfl rfl ?_
  refine gq_iln C 3 dL_law_1191 rfl rfl rfl ?_
  refine gq_ic C dL_law_1192 rfl ?_
  refine gq_add C dL_law_1193 rfl ?_
  refine l_sld C hX hbl hbA hL (by omega) (by omega) dL_law_1194 rfl ?_
  refine l_m (As := [zv (xs (Int.toNat (i + 1))).toInt]) (rest := []) C hE hEs rfl hA (mc_fx (fun am => km93 hE) rfl (by decide +kernel) ⟨by decide, by decide, by decide⟩ (fun am ha => (show fx_ty _ am [.inr (.inr 1), .inl (-2147483648, 2147483647)] [.ref m0, zv (xs (Int.toNat (i + 1))).toInt] from oks_ok ⟨rt_ok ⟨0, ha, rfl⟩ (by decide), ok_top _, trivial⟩)) (ret_ok rfl)) ⟨Nat.le_of_ble_eq_true rfl, Nat.le_of_ble_eq_true rfl⟩ ⟨Nat.le_of_ble_eq_true rfl, Nat.le_of_ble_eq_true rfl⟩ iV_X12_mark g_L_154 dL_law_1195 rfl rfl (Nat.le_of_ble_eq_true rfl) rfl (fun z1195 => ?_)
  refine gq_pop C dL_law_1198 rfl rfl ?_
  refine gq_goto C 1570 dL_law_1199 (by decide) ?_
  exact l_in kk
set_option maxRecDepth 100000 in
set_option maxHeartbeats 4000000 in
theorem law_c34 {p : Program} {l : Launch} {e : Env} {s : State} {m : MethodId} {below : List Frame} {meth : Method} {c : Code} {b L x0 m0 : Nat} {xs : Nat → Int32} {i : Int} {E : (Nat → Prop) → State → Prop} {cy : Nat → ClassId} {D : va_G} (C : gC p s m #[Value.ref b] c code 4 RL) (hXX : fxX E D cy) (hEs : E (fun q : Nat => s.heap.size ≤ q) s) (hX : va_X b L xs s s.heap) (hbl : b < s.heap.size) (hL : L ≤ 3072) (hi : 0 ≤ i) (hi6 : i + 6 ≤ L) (kk : lawG p l e s m below meth c b 1570 [(0, .ref b), (1, .ref x0), (2, .ref m0), (3, zv i)] [] (lP cy D (fun q : Nat => s.heap.size ≤ q) s.heap x0 m0)) : lawG p l e s m below meth c b 1202 [(0, .ref b), (1, .ref x0), (2, .ref m0), (3, zv i)] [] (lP cy D (fun q : Nat => s.heap.size ≤ q) s.heap x0 m0) := by
  have hE := hXX.1
  have hA : ∀ q : Nat, s.heap.size ≤ q → (fun q : Nat => s.heap.size ≤ q) q := fun _ h => h
  have hbA : ¬ (fun q : Nat => s.heap.size ≤ q) b := Nat.not_le.mpr hbl
  refine l_ex (fun t => ?_)
  refine gq_aln C 1 dL_law_1202 rfl rfl rfl ?_
  refine gq_aln C 0 dL_law_1203 rfl rfl rfl ?_
  refine gq_iln C 3 dL_law_1204 rfl rfl rfl ?_
  refine gq_ic C dL_law_1205 rfl ?_
  refine gq_add C dL_law_1206 rfl ?_
  refine l_sld C hX hbl hbA hL (by omega) (by omega) dL_law_1207 rfl ?_
  refine gq_aln C 0 dL_law_1208 rfl rfl rfl ?_
  refine gq_iln C 3 dL_law_1209 rfl rfl rfl ?_
  refine gq_ic C dL_law_1210 rfl ?_
  refine gq_add C dL_law_1211 rfl ?_
  refine l_sld C hX hbl hbA hL (by omega) (by omega) dL_law_1212 rfl ?_
  refine l_x (ts := [.inl (-2147483648, 2147483647), .inl (-2147483648, 2147483647)]) (As := [zv (xs (Int.toNat (i + 1))).toInt, zv (xs (Int.toNat (i + 2))).toInt]) (rest := []) C hE hEs rfl hA (fun gx ax => kx364 hXX) rfl ⟨by decide, by decide⟩ rfl (fun gs ad => ⟨ok_top _, ok_top _, trivial⟩) (ret_ok rfl) ⟨Nat.le_of_ble_eq_true rfl, Nat.le_of_ble_eq_true rfl⟩ ⟨Nat.le_of_ble_eq_true rfl, Nat.le_of_ble_eq_true rfl⟩ iV_X11_mended g_L_155 dL_law_1213 rfl rfl (Nat.le_of_ble_eq_true rfl) rfl (fun z1213 => ?_)
  refine gq_pop C dL_law_1216 rfl rfl ?_
  refine gq_aln C 2 dL_law_1217 rfl rfl rfl ?_
  refine gq_aln C 0 dL_law_1218 rfl rfl rfl ?_
  refine gq_iln C 3 dL_law_1219 rfl rfl rfl ?_
  refine gq_ic C dL_law_1220 rfl ?_
  refine gq_add C dL_law_1221 rfl ?_
  refine l_sld C hX hbl hbA hL (by omega) (by omega) dL_law_1222 rfl ?_
  refine gq_aln C 0 dL_law_1223 rfl rfl rfl ?_
  refine gq_iln C 3 dL_law_1224 rfl rfl rfl ?_
  refine gq_ic C dL_law_1225 rfl ?_
  refine gq_add C dL_law_1226 rfl ?_
  refine l_sld C hX hbl hbA hL (by omega) (by omega) dL_law_1227 rfl ?_
  refine l_m (As := [zv (xs (Int.toNat (i + 1))).toInt, zv (xs (Int.toNat (i + 2))).toInt]) (rest := []) C hE hEs rfl hA (mc_fx (fun am => km110 hE) rfl (by decide +kernel) ⟨by decide, by decide, by decide⟩ (fun am ha => (show fx_ty _ am [.inr (.inr 1), .inl (-2147483648, 2147483647), .inl (-2147483648, 2147483647)] [.ref m0, zv (xs (Int.toNat (i + 1))).toInt, zv (xs (Int.toNat (i + 2))).toInt] from oks_ok ⟨rt_ok ⟨0, ha, rfl⟩ (by decide), ok_top _, ok_top _, trivial⟩)) (ret_ok rfl)) ⟨Nat.le_of_ble_eq_true rfl, Nat.le_of_ble_eq_true rfl⟩ ⟨Nat.le_of_ble_eq_true rfl, Nat.le_of_ble_eq_true rfl⟩ iV_X12_mended g_L_158 dL_law_1228 rfl rfl (Nat.le_of_ble_eq_true rfl) rfl (fun z1228 => ?_)
  refine gq_pop C dL_law_1231 rfl rfl ?_
  refine gq_goto C 1570 dL_law_1232 (by decide) ?_
  exact l_in kk
set_option maxRecDepth 100000 in
set_option maxHeartbeats 4000000 in
theorem law_c35 {p : Program} {l : Launch} {e : Env} {s : State} {m : MethodId} {below : List Frame} {meth : Method} {c : Code} {b L x0 m0 : Nat} {xs : Nat → Int32} {i : Int} {E : (Nat → Prop) → State → Prop} {cy : Nat → ClassId} {D : va_G} (C : gC p s m #[Value.ref b] c code 4 RL) (hXX : fxX E D cy) (hEs : E (fun q : Nat => s.heap.size ≤ q) s) (hX : va_X b L xs s s.heap) (hbl : b < s.heap.size) (hL : L ≤ 3072) (hi : 0 ≤ i) (hi6 : i + 6 ≤ L) (kk : lawG p l e s m below meth c b 1570 [(0, .ref b), (1, .ref x0), (2, .ref m0), (3, zv i)] [] (lP cy D (fun q : Nat => s.heap.size ≤ q) s.heap x0 m0)) : lawG p l e s m below meth c b 1235 [(0, .ref b), (1, .ref x0), (2, .ref m0), (3, zv i)] [] (lP cy D (fun q : Nat => s.heap.size ≤ q) s.heap x0 m0) := by
  have hE := hXX.1
  have hA : ∀ q : Nat, s.heap.size ≤ q → (fun q : Nat => s.heap.size ≤ q) q := fun _ h => h
  have hbA : ¬ (fun q : Nat => s.heap.size ≤ q) b := Nat.not_le.mpr hbl
  refine l_ex (fun t => ?_)
  refine gq_aln C 1 dL_law_1235 rfl rfl rfl ?_
  refine l_x (ts := []) (As := []) (rest := []) C hE hEs rfl hA (fun gx ax => kx369 hXX) rfl ⟨by decide, by decide⟩ rfl (fun gs ad => trivial) (ret_ok rfl) ⟨Nat.le_of_ble_eq_true rfl, Nat.le_of_ble_eq_true rfl⟩ ⟨Nat.le_of_ble_eq_true rfl, Nat.le_of_ble_eq_true rfl⟩ iV_X11_safe g_L_159 dL_law_1236 rfl rfl (Nat.le_of_ble_eq_true rfl) rfl (fun z1236 => ?_)
  refine gq_pop C dL_law_1239 rfl rfl ?_
  refine gq_aln C 2 dL_law_1240 rfl rfl rfl ?_
  refine l_m (As := []) (rest := []) C hE hEs rfl hA (mc_fx (fun am => km267 hE) rfl (by decide +kernel) ⟨by decide, by decide, by decide⟩ (fun am ha => (show fx_ty _ am [.inr (.inr 1)] [.ref m0] from oks_ok ⟨rt_ok ⟨0, ha, rfl⟩ (by decide), trivial⟩)) (ret_ok rfl)) ⟨Nat.le_of_ble_eq_true rfl, Nat.le_of_ble_eq_true rfl⟩ ⟨Nat.le_of_ble_eq_true rfl, Nat.le_of_ble_eq_true rfl⟩ iV_X12_safe g_L_162 dL_law_1241 rfl rfl (Nat.le_of_ble_eq_true rfl) rfl (fun z1241 => ?_)
  refine gq_pop C dL_law_1244 rfl rfl ?_
  refine gq_goto C 1570 dL_law_1245 (by decide) ?_
  exact l_in kk
