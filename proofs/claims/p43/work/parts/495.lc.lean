theorem m_1530 : Cond.methodLink RL 163 yX11_sittings ∈ wsL_law := in_wsL_law_r64 _ (List.mem_of_getElem? (i := 18) rfl)
theorem m_1531 : Cond.instanceMethod yX11_sittings ∈ wsL_law := in_wsL_law_r64 _ (List.mem_of_getElem? (i := 19) rfl)
theorem m_1532 : Cond.selects RX11 yX11_sittings yX11_sittings ∈ wsL_law := in_wsL_law_r64 _ (List.mem_of_getElem? (i := 20) rfl)
theorem m_1533 : Cond.code yX11_sittings cX11_sittings 2 (some .int) ∈ wsL_law := in_wsL_law_r64 _ (List.mem_of_getElem? (i := 21) rfl)
theorem m_1567 : Cond.methodLink RL 166 yX12_sittings ∈ wsL_law := in_wsL_law_r66 _ (List.mem_of_getElem? (i := 7) rfl)
theorem m_1568 : Cond.instanceMethod yX12_sittings ∈ wsL_law := in_wsL_law_r66 _ (List.mem_of_getElem? (i := 8) rfl)
theorem m_1569 : Cond.selects RX12 yX12_sittings yX12_sittings ∈ wsL_law := in_wsL_law_r66 _ (List.mem_of_getElem? (i := 9) rfl)
theorem m_1570 : Cond.code yX12_sittings cX12_sittings 4 (some .int) ∈ wsL_law := in_wsL_law_r66 _ (List.mem_of_getElem? (i := 10) rfl)
theorem m_1583 : Cond.methodLink RL 167 yX11_comes ∈ wsL_law := in_wsL_law_r66 _ (List.mem_of_getElem? (i := 23) rfl)
theorem m_1584 : Cond.instanceMethod yX11_comes ∈ wsL_law := in_wsL_law_r67 _ (List.mem_of_getElem? (i := 0) rfl)
theorem m_1585 : Cond.selects RX11 yX11_comes yX11_comes ∈ wsL_law := in_wsL_law_r67 _ (List.mem_of_getElem? (i := 1) rfl)
theorem m_1586 : Cond.code yX11_comes cX11_comes 2 (some .int) ∈ wsL_law := in_wsL_law_r67 _ (List.mem_of_getElem? (i := 2) rfl)
theorem m_1588 : Cond.methodLink RL 170 yX12_comes ∈ wsL_law := in_wsL_law_r67 _ (List.mem_of_getElem? (i := 4) rfl)
theorem m_1589 : Cond.instanceMethod yX12_comes ∈ wsL_law := in_wsL_law_r67 _ (List.mem_of_getElem? (i := 5) rfl)
theorem m_1590 : Cond.selects RX12 yX12_comes yX12_comes ∈ wsL_law := in_wsL_law_r67 _ (List.mem_of_getElem? (i := 6) rfl)
theorem m_1591 : Cond.code yX12_comes cX12_comes 4 (some .int) ∈ wsL_law := in_wsL_law_r67 _ (List.mem_of_getElem? (i := 7) rfl)
theorem m_1592 : Cond.methodLink RL 171 yX11_lies ∈ wsL_law := in_wsL_law_r67 _ (List.mem_of_getElem? (i := 8) rfl)
theorem m_1593 : Cond.instanceMethod yX11_lies ∈ wsL_law := in_wsL_law_r67 _ (List.mem_of_getElem? (i := 9) rfl)
theorem m_1594 : Cond.selects RX11 yX11_lies yX11_lies ∈ wsL_law := in_wsL_law_r67 _ (List.mem_of_getElem? (i := 10) rfl)
theorem m_1595 : Cond.code yX11_lies cX11_lies 2 (some .int) ∈ wsL_law := in_wsL_law_r67 _ (List.mem_of_getElem? (i := 11) rfl)
theorem m_1596 : Cond.methodLink RL 174 yX12_lies ∈ wsL_law := in_wsL_law_r67 _ (List.mem_of_getElem? (i := 12) rfl)
theorem m_1597 : Cond.instanceMethod yX12_lies ∈ wsL_law := in_wsL_law_r67 _ (List.mem_of_getElem? (i := 13) rfl)
theorem m_1598 : Cond.selects RX12 yX12_lies yX12_lies ∈ wsL_law := in_wsL_law_r67 _ (List.mem_of_getElem? (i := 14) rfl)
theorem m_1599 : Cond.code yX12_lies cX12_lies 2 (some .int) ∈ wsL_law := in_wsL_law_r67 _ (List.mem_of_getElem? (i := 15) rfl)
theorem m_1600 : Cond.methodLink RL 175 yX11_hint ∈ wsL_law := in_wsL_law_r67 _ (List.mem_of_getElem? (i := 16) rfl)
theorem m_1601 : Cond.instanceMethod yX11_hint ∈ wsL_law := in_wsL_law_r67 _ (List.mem_of_getElem? (i := 17) rfl)
theorem m_1602 : Cond.selects RX11 yX11_hint yX11_hint ∈ wsL_law := in_wsL_law_r67 _ (List.mem_of_getElem? (i := 18) rfl)
theorem m_1603 : Cond.code yX11_hint cX11_hint 4 (some .int) ∈ wsL_law := in_wsL_law_r67 _ (List.mem_of_getElem? (i := 19) rfl)
theorem m_1609 : Cond.methodLink RL 179 yX12_hint ∈ wsL_law := in_wsL_law_r68 _ (List.mem_of_getElem? (i := 1) rfl)
theorem m_1610 : Cond.instanceMethod yX12_hint ∈ wsL_law := in_wsL_law_r68 _ (List.mem_of_getElem? (i := 2) rfl)
theorem m_1611 : Cond.selects RX12 yX12_hint yX12_hint ∈ wsL_law := in_wsL_law_r68 _ (List.mem_of_getElem? (i := 3) rfl)
theorem m_1612 : Cond.code yX12_hint cX12_hint 4 (some .int) ∈ wsL_law := in_wsL_law_r68 _ (List.mem_of_getElem? (i := 4) rfl)
theorem m_1614 : Cond.methodLink RL 180 yX11_untell ∈ wsL_law := in_wsL_law_r68 _ (List.mem_of_getElem? (i := 6) rfl)
theorem m_1615 : Cond.instanceMethod yX11_untell ∈ wsL_law := in_wsL_law_r68 _ (List.mem_of_getElem? (i := 7) rfl)
theorem m_1616 : Cond.selects RX11 yX11_untell yX11_untell ∈ wsL_law := in_wsL_law_r68 _ (List.mem_of_getElem? (i := 8) rfl)
theorem m_1617 : Cond.code yX11_untell cX11_untell 2 (some .boolean) ∈ wsL_law := in_wsL_law_r68 _ (List.mem_of_getElem? (i := 9) rfl)
theorem m_1622 : Cond.methodLink RL 184 yX12_untell ∈ wsL_law := in_wsL_law_r68 _ (List.mem_of_getElem? (i := 14) rfl)
theorem m_1623 : Cond.instanceMethod yX12_untell ∈ wsL_law := in_wsL_law_r68 _ (List.mem_of_getElem? (i := 15) rfl)
theorem m_1624 : Cond.selects RX12 yX12_untell yX12_untell ∈ wsL_law := in_wsL_law_r68 _ (List.mem_of_getElem? (i := 16) rfl)
theorem m_1625 : Cond.code yX12_untell cX12_untell 2 (some .boolean) ∈ wsL_law := in_wsL_law_r68 _ (List.mem_of_getElem? (i := 17) rfl)
theorem m_1626 : Cond.methodLink RL 185 yX11_later ∈ wsL_law := in_wsL_law_r68 _ (List.mem_of_getElem? (i := 18) rfl)
theorem m_1627 : Cond.instanceMethod yX11_later ∈ wsL_law := in_wsL_law_r68 _ (List.mem_of_getElem? (i := 19) rfl)
theorem m_1628 : Cond.selects RX11 yX11_later yX11_later ∈ wsL_law := in_wsL_law_r68 _ (List.mem_of_getElem? (i := 20) rfl)
theorem m_1629 : Cond.code yX11_later cX11_later 2 (some .int) ∈ wsL_law := in_wsL_law_r68 _ (List.mem_of_getElem? (i := 21) rfl)
theorem m_1635 : Cond.methodLink RL 188 yX12_later ∈ wsL_law := in_wsL_law_r69 _ (List.mem_of_getElem? (i := 3) rfl)
theorem m_1636 : Cond.instanceMethod yX12_later ∈ wsL_law := in_wsL_law_r69 _ (List.mem_of_getElem? (i := 4) rfl)
theorem m_1637 : Cond.selects RX12 yX12_later yX12_later ∈ wsL_law := in_wsL_law_r69 _ (List.mem_of_getElem? (i := 5) rfl)
theorem m_1638 : Cond.code yX12_later cX12_later 2 (some .int) ∈ wsL_law := in_wsL_law_r69 _ (List.mem_of_getElem? (i := 6) rfl)
theorem m_1640 : Cond.methodLink RL 189 yX11_seats ∈ wsL_law := in_wsL_law_r69 _ (List.mem_of_getElem? (i := 8) rfl)
theorem m_1641 : Cond.instanceMethod yX11_seats ∈ wsL_law := in_wsL_law_r69 _ (List.mem_of_getElem? (i := 9) rfl)
theorem m_1642 : Cond.selects RX11 yX11_seats yX11_seats ∈ wsL_law := in_wsL_law_r69 _ (List.mem_of_getElem? (i := 10) rfl)
theorem m_1643 : Cond.code yX11_seats cX11_seats 2 (some .int) ∈ wsL_law := in_wsL_law_r69 _ (List.mem_of_getElem? (i := 11) rfl)
theorem m_1645 : Cond.methodLink RL 192 yX12_seats ∈ wsL_law := in_wsL_law_r69 _ (List.mem_of_getElem? (i := 13) rfl)
theorem m_1646 : Cond.instanceMethod yX12_seats ∈ wsL_law := in_wsL_law_r69 _ (List.mem_of_getElem? (i := 14) rfl)
theorem m_1647 : Cond.selects RX12 yX12_seats yX12_seats ∈ wsL_law := in_wsL_law_r69 _ (List.mem_of_getElem? (i := 15) rfl)
theorem m_1648 : Cond.code yX12_seats cX12_seats 2 (some .int) ∈ wsL_law := in_wsL_law_r69 _ (List.mem_of_getElem? (i := 16) rfl)
theorem m_1658 : Cond.methodLink RL 193 yX11_sure ∈ wsL_law := in_wsL_law_r70 _ (List.mem_of_getElem? (i := 2) rfl)
theorem m_1659 : Cond.instanceMethod yX11_sure ∈ wsL_law := in_wsL_law_r70 _ (List.mem_of_getElem? (i := 3) rfl)
theorem m_1660 : Cond.selects RX11 yX11_sure yX11_sure ∈ wsL_law := in_wsL_law_r70 _ (List.mem_of_getElem? (i := 4) rfl)
theorem m_1661 : Cond.code yX11_sure cX11_sure 3 (some .int) ∈ wsL_law := in_wsL_law_r70 _ (List.mem_of_getElem? (i := 5) rfl)
theorem m_1670 : Cond.methodLink RL 196 yX12_sure ∈ wsL_law := in_wsL_law_r70 _ (List.mem_of_getElem? (i := 14) rfl)
theorem m_1671 : Cond.instanceMethod yX12_sure ∈ wsL_law := in_wsL_law_r70 _ (List.mem_of_getElem? (i := 15) rfl)
theorem m_1672 : Cond.selects RX12 yX12_sure yX12_sure ∈ wsL_law := in_wsL_law_r70 _ (List.mem_of_getElem? (i := 16) rfl)
theorem m_1673 : Cond.code yX12_sure cX12_sure 4 (some .int) ∈ wsL_law := in_wsL_law_r70 _ (List.mem_of_getElem? (i := 17) rfl)
theorem m_1674 : Cond.methodLink RL 197 yX11_ask ∈ wsL_law := in_wsL_law_r70 _ (List.mem_of_getElem? (i := 18) rfl)
theorem m_1675 : Cond.instanceMethod yX11_ask ∈ wsL_law := in_wsL_law_r70 _ (List.mem_of_getElem? (i := 19) rfl)
theorem m_1676 : Cond.selects RX11 yX11_ask yX11_ask ∈ wsL_law := in_wsL_law_r70 _ (List.mem_of_getElem? (i := 20) rfl)
theorem m_1677 : Cond.code yX11_ask cX11_ask 4 (some .int) ∈ wsL_law := in_wsL_law_r70 _ (List.mem_of_getElem? (i := 21) rfl)
theorem m_1688 : Cond.methodLink RL 200 yX12_ask ∈ wsL_law := in_wsL_law_r71 _ (List.mem_of_getElem? (i := 8) rfl)
theorem m_1689 : Cond.instanceMethod yX12_ask ∈ wsL_law := in_wsL_law_r71 _ (List.mem_of_getElem? (i := 9) rfl)
theorem m_1690 : Cond.selects RX12 yX12_ask yX12_ask ∈ wsL_law := in_wsL_law_r71 _ (List.mem_of_getElem? (i := 10) rfl)
theorem m_1691 : Cond.code yX12_ask cX12_ask 8 (some .int) ∈ wsL_law := in_wsL_law_r71 _ (List.mem_of_getElem? (i := 11) rfl)
theorem m_1692 : Cond.methodLink RL 201 yX11_image ∈ wsL_law := in_wsL_law_r71 _ (List.mem_of_getElem? (i := 12) rfl)
theorem m_1693 : Cond.instanceMethod yX11_image ∈ wsL_law := in_wsL_law_r71 _ (List.mem_of_getElem? (i := 13) rfl)
theorem m_1694 : Cond.selects RX11 yX11_image yX11_image ∈ wsL_law := in_wsL_law_r71 _ (List.mem_of_getElem? (i := 14) rfl)
theorem m_1695 : Cond.code yX11_image cX11_image 2 (some .int) ∈ wsL_law := in_wsL_law_r71 _ (List.mem_of_getElem? (i := 15) rfl)
theorem m_1703 : Cond.methodLink RL 204 yX12_image ∈ wsL_law := in_wsL_law_r71 _ (List.mem_of_getElem? (i := 23) rfl)
theorem m_1704 : Cond.instanceMethod yX12_image ∈ wsL_law := in_wsL_law_r72 _ (List.mem_of_getElem? (i := 0) rfl)
theorem m_1705 : Cond.selects RX12 yX12_image yX12_image ∈ wsL_law := in_wsL_law_r72 _ (List.mem_of_getElem? (i := 1) rfl)
theorem m_1706 : Cond.code yX12_image cX12_image 3 (some .int) ∈ wsL_law := in_wsL_law_r72 _ (List.mem_of_getElem? (i := 2) rfl)
theorem m_1707 : Cond.methodLink RL 205 yX11_back ∈ wsL_law := in_wsL_law_r72 _ (List.mem_of_getElem? (i := 3) rfl)
theorem m_1708 : Cond.instanceMethod yX11_back ∈ wsL_law := in_wsL_law_r72 _ (List.mem_of_getElem? (i := 4) rfl)
theorem m_1709 : Cond.selects RX11 yX11_back yX11_back ∈ wsL_law := in_wsL_law_r72 _ (List.mem_of_getElem? (i := 5) rfl)
theorem m_1710 : Cond.code yX11_back cX11_back 2 (some .int) ∈ wsL_law := in_wsL_law_r72 _ (List.mem_of_getElem? (i := 6) rfl)
theorem m_1715 : Cond.methodLink RL 208 yX12_back ∈ wsL_law := in_wsL_law_r72 _ (List.mem_of_getElem? (i := 11) rfl)
theorem m_1716 : Cond.instanceMethod yX12_back ∈ wsL_law := in_wsL_law_r72 _ (List.mem_of_getElem? (i := 12) rfl)
theorem m_1717 : Cond.selects RX12 yX12_back yX12_back ∈ wsL_law := in_wsL_law_r72 _ (List.mem_of_getElem? (i := 13) rfl)
theorem m_1718 : Cond.code yX12_back cX12_back 3 (some .int) ∈ wsL_law := in_wsL_law_r72 _ (List.mem_of_getElem? (i := 14) rfl)
theorem m_1719 : Cond.methodLink RL 209 yX11_about ∈ wsL_law := in_wsL_law_r72 _ (List.mem_of_getElem? (i := 15) rfl)
theorem m_1720 : Cond.instanceMethod yX11_about ∈ wsL_law := in_wsL_law_r72 _ (List.mem_of_getElem? (i := 16) rfl)
theorem m_1721 : Cond.selects RX11 yX11_about yX11_about ∈ wsL_law := in_wsL_law_r72 _ (List.mem_of_getElem? (i := 17) rfl)
theorem m_1722 : Cond.code yX11_about cX11_about 2 (some .int) ∈ wsL_law := in_wsL_law_r72 _ (List.mem_of_getElem? (i := 18) rfl)
theorem m_1731 : Cond.methodLink RL 212 yX12_about ∈ wsL_law := in_wsL_law_r73 _ (List.mem_of_getElem? (i := 3) rfl)
theorem m_1732 : Cond.instanceMethod yX12_about ∈ wsL_law := in_wsL_law_r73 _ (List.mem_of_getElem? (i := 4) rfl)
theorem m_1733 : Cond.selects RX12 yX12_about yX12_about ∈ wsL_law := in_wsL_law_r73 _ (List.mem_of_getElem? (i := 5) rfl)
theorem m_1734 : Cond.code yX12_about cX12_about 2 (some .int) ∈ wsL_law := in_wsL_law_r73 _ (List.mem_of_getElem? (i := 6) rfl)
theorem iV_X11_sittings : yX11_sittings.cls = RX11 ∧ yX11_sittings.cls ≠ "java/lang/invoke/MethodHandle" ∧ yX11_sittings.cls ≠ "java/lang/invoke/VarHandle" ∧ (parseMethodDescriptor yX11_sittings.desc).map (fun d => d.parameters.length) = some 0 := by decide +kernel
theorem iV_X12_sittings : yX12_sittings.cls = RX12 ∧ yX12_sittings.cls ≠ "java/lang/invoke/MethodHandle" ∧ yX12_sittings.cls ≠ "java/lang/invoke/VarHandle" ∧ (parseMethodDescriptor yX12_sittings.desc).map (fun d => d.parameters.length) = some 0 := by decide +kernel
theorem iV_X11_comes : yX11_comes.cls = RX11 ∧ yX11_comes.cls ≠ "java/lang/invoke/MethodHandle" ∧ yX11_comes.cls ≠ "java/lang/invoke/VarHandle" ∧ (parseMethodDescriptor yX11_comes.desc).map (fun d => d.parameters.length) = some 1 := by decide +kernel
theorem iV_X12_comes : yX12_comes.cls = RX12 ∧ yX12_comes.cls ≠ "java/lang/invoke/MethodHandle" ∧ yX12_comes.cls ≠ "java/lang/invoke/VarHandle" ∧ (parseMethodDescriptor yX12_comes.desc).map (fun d => d.parameters.length) = some 1 := by decide +kernel
theorem iV_X11_lies : yX11_lies.cls = RX11 ∧ yX11_lies.cls ≠ "java/lang/invoke/MethodHandle" ∧ yX11_lies.cls ≠ "java/lang/invoke/VarHandle" ∧ (parseMethodDescriptor yX11_lies.desc).map (fun d => d.parameters.length) = some 1 := by decide +kernel
theorem iV_X12_lies : yX12_lies.cls = RX12 ∧ yX12_lies.cls ≠ "java/lang/invoke/MethodHandle" ∧ yX12_lies.cls ≠ "java/lang/invoke/VarHandle" ∧ (parseMethodDescriptor yX12_lies.desc).map (fun d => d.parameters.length) = some 1 := by decide +kernel
theorem iV_X11_hint : yX11_hint.cls = RX11 ∧ yX11_hint.cls ≠ "java/lang/invoke/MethodHandle" ∧ yX11_hint.cls ≠ "java/lang/invoke/VarHandle" ∧ (parseMethodDescriptor yX11_hint.desc).map (fun d => d.parameters.length) = some 3 := by decide +kernel
theorem iV_X12_hint : yX12_hint.cls = RX12 ∧ yX12_hint.cls ≠ "java/lang/invoke/MethodHandle" ∧ yX12_hint.cls ≠ "java/lang/invoke/VarHandle" ∧ (parseMethodDescriptor yX12_hint.desc).map (fun d => d.parameters.length) = some 3 := by decide +kernel
theorem iV_X11_untell : yX11_untell.cls = RX11 ∧ yX11_untell.cls ≠ "java/lang/invoke/MethodHandle" ∧ yX11_untell.cls ≠ "java/lang/invoke/VarHandle" ∧ (parseMethodDescriptor yX11_untell.desc).map (fun d => d.parameters.length) = some 1 := by decide +kernel
theorem iV_X12_untell : yX12_untell.cls = RX12 ∧ yX12_untell.cls ≠ "java/lang/invoke/MethodHandle" ∧ yX12_untell.cls ≠ "java/lang/invoke/VarHandle" ∧ (parseMethodDescriptor yX12_untell.desc).map (fun d => d.parameters.length) = some 1 := by decide +kernel
theorem iV_X11_later : yX11_later.cls = RX11 ∧ yX11_later.cls ≠ "java/lang/invoke/MethodHandle" ∧ yX11_later.cls ≠ "java/lang/invoke/VarHandle" ∧ (parseMethodDescriptor yX11_later.desc).map (fun d => d.parameters.length) = some 1 := by decide +kernel
theorem iV_X12_later : yX12_later.cls = RX12 ∧ yX12_later.cls ≠ "java/lang/invoke/MethodHandle" ∧ yX12_later.cls ≠ "java/lang/invoke/VarHandle" ∧ (parseMethodDescriptor yX12_later.desc).map (fun d => d.parameters.length) = some 1 := by decide +kernel
theorem iV_X11_seats : yX11_seats.cls = RX11 ∧ yX11_seats.cls ≠ "java/lang/invoke/MethodHandle" ∧ yX11_seats.cls ≠ "java/lang/invoke/VarHandle" ∧ (parseMethodDescriptor yX11_seats.desc).map (fun d => d.parameters.length) = some 1 := by decide +kernel
theorem iV_X12_seats : yX12_seats.cls = RX12 ∧ yX12_seats.cls ≠ "java/lang/invoke/MethodHandle" ∧ yX12_seats.cls ≠ "java/lang/invoke/VarHandle" ∧ (parseMethodDescriptor yX12_seats.desc).map (fun d => d.parameters.length) = some 1 := by decide +kernel
theorem iV_X11_sure : yX11_sure.cls = RX11 ∧ yX11_sure.cls ≠ "java/lang/invoke/MethodHandle" ∧ yX11_sure.cls ≠ "java/lang/invoke/VarHandle" ∧ (parseMethodDescriptor yX11_sure.desc).map (fun d => d.parameters.length) = some 2 := by decide +kernel
theorem iV_X12_sure : yX12_sure.cls = RX12 ∧ yX12_sure.cls ≠ "java/lang/invoke/MethodHandle" ∧ yX12_sure.cls ≠ "java/lang/invoke/VarHandle" ∧ (parseMethodDescriptor yX12_sure.desc).map (fun d => d.parameters.length) = some 2 := by decide +kernel
theorem iV_X11_ask : yX11_ask.cls = RX11 ∧ yX11_ask.cls ≠ "java/lang/invoke/MethodHandle" ∧ yX11_ask.cls ≠ "java/lang/invoke/VarHandle" ∧ (parseMethodDescriptor yX11_ask.desc).map (fun d => d.parameters.length) = some 2 := by decide +kernel
theorem iV_X12_ask : yX12_ask.cls = RX12 ∧ yX12_ask.cls ≠ "java/lang/invoke/MethodHandle" ∧ yX12_ask.cls ≠ "java/lang/invoke/VarHandle" ∧ (parseMethodDescriptor yX12_ask.desc).map (fun d => d.parameters.length) = some 2 := by decide +kernel
theorem iV_X11_image : yX11_image.cls = RX11 ∧ yX11_image.cls ≠ "java/lang/invoke/MethodHandle" ∧ yX11_image.cls ≠ "java/lang/invoke/VarHandle" ∧ (parseMethodDescriptor yX11_image.desc).map (fun d => d.parameters.length) = some 1 := by decide +kernel
theorem iV_X12_image : yX12_image.cls = RX12 ∧ yX12_image.cls ≠ "java/lang/invoke/MethodHandle" ∧ yX12_image.cls ≠ "java/lang/invoke/VarHandle" ∧ (parseMethodDescriptor yX12_image.desc).map (fun d => d.parameters.length) = some 1 := by decide +kernel
theorem iV_X11_back : yX11_back.cls = RX11 ∧ yX11_back.cls ≠ "java/lang/invoke/MethodHandle" ∧ yX11_back.cls ≠ "java/lang/invoke/VarHandle" ∧ (parseMethodDescriptor yX11_back.desc).map (fun d => d.parameters.length) = some 1 := by decide +kernel
theorem iV_X12_back : yX12_back.cls = RX12 ∧ yX12_back.cls ≠ "java/lang/invoke/MethodHandle" ∧ yX12_back.cls ≠ "java/lang/invoke/VarHandle" ∧ (parseMethodDescriptor yX12_back.desc).map (fun d => d.parameters.length) = some 1 := by decide +kernel
theorem iV_X11_about : yX11_about.cls = RX11 ∧ yX11_about.cls ≠ "java/lang/invoke/MethodHandle" ∧ yX11_about.cls ≠ "java/lang/invoke/VarHandle" ∧ (parseMethodDescriptor yX11_about.desc).map (fun d => d.parameters.length) = some 1 := by decide +kernel
theorem iV_X12_about : yX12_about.cls = RX12 ∧ yX12_about.cls ≠ "java/lang/invoke/MethodHandle" ∧ yX12_about.cls ≠ "java/lang/invoke/VarHandle" ∧ (parseMethodDescriptor yX12_about.desc).map (fun d => d.parameters.length) = some 1 := by decide +kernel
theorem g_L_163 : GoodIn wsL_law (wsV RL 163 RX11 yX11_sittings (.code yX11_sittings cX11_sittings 2 (some .int) :: wsL_law)) := gdV m_1530 m_1531 m_1532 m_2 m_1533
theorem g_L_166 : GoodIn wsL_law (wsV RL 166 RX12 yX12_sittings (.code yX12_sittings cX12_sittings 4 (some .int) :: wsL_law)) := gdV m_1567 m_1568 m_1569 m_5 m_1570
theorem g_L_167 : GoodIn wsL_law (wsV RL 167 RX11 yX11_comes (.code yX11_comes cX11_comes 2 (some .int) :: wsL_law)) := gdV m_1583 m_1584 m_1585 m_2 m_1586
theorem g_L_170 : GoodIn wsL_law (wsV RL 170 RX12 yX12_comes (.code yX12_comes cX12_comes 4 (some .int) :: wsL_law)) := gdV m_1588 m_1589 m_1590 m_5 m_1591
theorem g_L_171 : GoodIn wsL_law (wsV RL 171 RX11 yX11_lies (.code yX11_lies cX11_lies 2 (some .int) :: wsL_law)) := gdV m_1592 m_1593 m_1594 m_2 m_1595
theorem g_L_174 : GoodIn wsL_law (wsV RL 174 RX12 yX12_lies (.code yX12_lies cX12_lies 2 (some .int) :: wsL_law)) := gdV m_1596 m_1597 m_1598 m_5 m_1599
theorem g_L_175 : GoodIn wsL_law (wsV RL 175 RX11 yX11_hint (.code yX11_hint cX11_hint 4 (some .int) :: wsL_law)) := gdV m_1600 m_1601 m_1602 m_2 m_1603
theorem g_L_179 : GoodIn wsL_law (wsV RL 179 RX12 yX12_hint (.code yX12_hint cX12_hint 4 (some .int) :: wsL_law)) := gdV m_1609 m_1610 m_1611 m_5 m_1612
theorem g_L_180 : GoodIn wsL_law (wsV RL 180 RX11 yX11_untell (.code yX11_untell cX11_untell 2 (some .boolean) :: wsL_law)) := gdV m_1614 m_1615 m_1616 m_2 m_1617
theorem g_L_184 : GoodIn wsL_law (wsV RL 184 RX12 yX12_untell (.code yX12_untell cX12_untell 2 (some .boolean) :: wsL_law)) := gdV m_1622 m_1623 m_1624 m_5 m_1625
theorem g_L_185 : GoodIn wsL_law (wsV RL 185 RX11 yX11_later (.code yX11_later cX11_later 2 (some .int) :: wsL_law)) := gdV m_1626 m_1627 m_1628 m_2 m_1629
theorem g_L_188 : GoodIn wsL_law (wsV RL 188 RX12 yX12_later (.code yX12_later cX12_later 2 (some .int) :: wsL_law)) := gdV m_1635 m_1636 m_1637 m_5 m_1638
theorem g_L_189 : GoodIn wsL_law (wsV RL 189 RX11 yX11_seats (.code yX11_seats cX11_seats 2 (some .int) :: wsL_law)) := gdV m_1640 m_1641 m_1642 m_2 m_1643
theorem g_L_192 : GoodIn wsL_law (wsV RL 192 RX12 yX12_seats (.code yX12_seats cX12_seats 2 (some .int) :: wsL_law)) := gdV m_1645 m_1646 m_1647 m_5 m_1648
theorem g_L_193 : GoodIn wsL_law (wsV RL 193 RX11 yX11_sure (.code yX11_sure cX11_sure 3 (some .int) :: wsL_law)) := gdV m_1658 m_1659 m_1660 m_2 m_1661
theorem g_L_196 : GoodIn wsL_law (wsV RL 196 RX12 yX12_sure (.code yX12_sure cX12_sure 4 (some .int) :: wsL_law)) := gdV m_1670 m_1671 m_1672 m_5 m_1673
theorem g_L_197 : GoodIn wsL_law (wsV RL 197 RX11 yX11_ask (.code yX11_ask cX11_ask 4 (some .int) :: wsL_law)) := gdV m_1674 m_1675 m_1676 m_2 m_1677
theorem g_L_200 : GoodIn wsL_law (wsV RL 200 RX12 yX12_ask (.code yX12_ask cX12_ask 8 (some .int) :: wsL_law)) := gdV m_1688 m_1689 m_1690 m_5 m_1691
theorem g_L_201 : GoodIn wsL_law (wsV RL 201 RX11 yX11_image (.code yX11_image cX11_image 2 (some .int) :: wsL_law)) := gdV m_1692 m_1693 m_1694 m_2 m_1695
theorem g_L_204 : GoodIn wsL_law (wsV RL 204 RX12 yX12_image (.code yX12_image cX12_image 3 (some .int) :: wsL_law)) := gdV m_1703 m_1704 m_1705 m_5 m_1706
theorem g_L_205 : GoodIn wsL_law (wsV RL 205 RX11 yX11_back (.code yX11_back cX11_back 2 (some .int) :: wsL_law)) := gdV m_1707 m_1708 m_1709 m_2 m_1710
theorem g_L_208 : GoodIn wsL_law (wsV RL 208 RX12 yX12_back (.code yX12_back cX12_back 3 (some .int) :: wsL_law)) := gdV m_1715 m_1716 m_1717 m_5 m_1718
theorem g_L_209 : GoodIn wsL_law (wsV RL 209 RX11 yX11_about (.code yX11_about cX11_about 2 (some .int) :: wsL_law)) := gdV m_1719 m_1720 m_1721 m_2 m_1722
theorem g_L_212 : GoodIn wsL_law (wsV RL 212 RX12 yX12_about (.code yX12_about cX12_about 2 (some .int) :: wsL_law)) := gdV m_1731 m_1732 m_1733 m_5 m_1734
theorem dL_law_1248 : decode cL_law 1248 = .ok (.aload_n 1, 1) := by decide +kernel
theorem dL_law_1249 : decode cL_law 1249 = .ok (.invokevirtual 163, 3) := by decide +kernel
theorem dL_law_1252 : decode cL_law 1252 = .ok (.pop, 1) := by decide +kernel
theorem dL_law_1253 : decode cL_law 1253 = .ok (.aload_n 2, 1) := by decide +kernel
theorem dL_law_1254 : decode cL_law 1254 = .ok (.invokevirtual 166, 3) := by decide +kernel
theorem dL_law_1257 : decode cL_law 1257 = .ok (.pop, 1) := by decide +kernel
theorem dL_law_1258 : decode cL_law 1258 = .ok (.goto 312, 3) := by decide +kernel
theorem dL_law_1261 : decode cL_law 1261 = .ok (.aload_n 1, 1) := by decide +kernel
theorem dL_law_1262 : decode cL_law 1262 = .ok (.aload_n 0, 1) := by decide +kernel
theorem dL_law_1263 : decode cL_law 1263 = .ok (.iload_n 3, 1) := by decide +kernel
theorem dL_law_1264 : decode cL_law 1264 = .ok (.iconst 1, 1) := by decide +kernel
theorem dL_law_1265 : decode cL_law 1265 = .ok (.iadd, 1) := by decide +kernel
theorem dL_law_1266 : decode cL_law 1266 = .ok (.iaload, 1) := by decide +kernel
theorem dL_law_1267 : decode cL_law 1267 = .ok (.invokevirtual 167, 3) := by decide +kernel
theorem dL_law_1270 : decode cL_law 1270 = .ok (.pop, 1) := by decide +kernel
theorem dL_law_1271 : decode cL_law 1271 = .ok (.aload_n 2, 1) := by decide +kernel
theorem dL_law_1272 : decode cL_law 1272 = .ok (.aload_n 0, 1) := by decide +kernel
theorem dL_law_1273 : decode cL_law 1273 = .ok (.iload_n 3, 1) := by decide +kernel
theorem dL_law_1274 : decode cL_law 1274 = .ok (.iconst 1, 1) := by decide +kernel
theorem dL_law_1275 : decode cL_law 1275 = .ok (.iadd, 1) := by decide +kernel
theorem dL_law_1276 : decode cL_law 1276 = .ok (.iaload, 1) := by decide +kernel
theorem dL_law_1277 : decode cL_law 1277 = .ok (.invokevirtual 170, 3) := by decide +kernel
theorem dL_law_1280 : decode cL_law 1280 = .ok (.pop, 1) := by decide +kernel
theorem dL_law_1281 : decode cL_law 1281 = .ok (.goto 289, 3) := by decide +kernel
theorem dL_law_1284 : decode cL_law 1284 = .ok (.aload_n 1, 1) := by decide +kernel
theorem dL_law_1285 : decode cL_law 1285 = .ok (.aload_n 0, 1) := by decide +kernel
theorem dL_law_1286 : decode cL_law 1286 = .ok (.iload_n 3, 1) := by decide +kernel
theorem dL_law_1287 : decode cL_law 1287 = .ok (.iconst 1, 1) := by decide +kernel
theorem dL_law_1288 : decode cL_law 1288 = .ok (.iadd, 1) := by decide +kernel
theorem dL_law_1289 : decode cL_law 1289 = .ok (.iaload, 1) := by decide +kernel
theorem dL_law_1290 : decode cL_law 1290 = .ok (.invokevirtual 171, 3) := by decide +kernel
theorem dL_law_1293 : decode cL_law 1293 = .ok (.pop, 1) := by decide +kernel
theorem dL_law_1294 : decode cL_law 1294 = .ok (.aload_n 2, 1) := by decide +kernel
theorem dL_law_1295 : decode cL_law 1295 = .ok (.aload_n 0, 1) := by decide +kernel
theorem dL_law_1296 : decode cL_law 1296 = .ok (.iload_n 3, 1) := by decide +kernel
theorem dL_law_1297 : decode cL_law 1297 = .ok (.iconst 1, 1) := by decide +kernel
theorem dL_law_1298 : decode cL_law 1298 = .ok (.iadd, 1) := by decide +kernel
theorem dL_law_1299 : decode cL_law 1299 = .ok (.iaload, 1) := by decide +kernel
theorem dL_law_1300 : decode cL_law 1300 = .ok (.invokevirtual 174, 3) := by decide +kernel
theorem dL_law_1303 : decode cL_law 1303 = .ok (.pop, 1) := by decide +kernel
theorem dL_law_1304 : decode cL_law 1304 = .ok (.goto 266, 3) := by decide +kernel
theorem dL_law_1307 : decode cL_law 1307 = .ok (.aload_n 1, 1) := by decide +kernel
theorem dL_law_1308 : decode cL_law 1308 = .ok (.aload_n 0, 1) := by decide +kernel
theorem dL_law_1309 : decode cL_law 1309 = .ok (.iload_n 3, 1) := by decide +kernel
theorem dL_law_1310 : decode cL_law 1310 = .ok (.iconst 1, 1) := by decide +kernel
theorem dL_law_1311 : decode cL_law 1311 = .ok (.iadd, 1) := by decide +kernel
theorem dL_law_1312 : decode cL_law 1312 = .ok (.iaload, 1) := by decide +kernel
theorem dL_law_1313 : decode cL_law 1313 = .ok (.aload_n 0, 1) := by decide +kernel
theorem dL_law_1314 : decode cL_law 1314 = .ok (.iload_n 3, 1) := by decide +kernel
theorem dL_law_1315 : decode cL_law 1315 = .ok (.iconst 2, 1) := by decide +kernel
theorem dL_law_1316 : decode cL_law 1316 = .ok (.iadd, 1) := by decide +kernel
theorem dL_law_1317 : decode cL_law 1317 = .ok (.iaload, 1) := by decide +kernel
theorem dL_law_1318 : decode cL_law 1318 = .ok (.aload_n 0, 1) := by decide +kernel
theorem dL_law_1319 : decode cL_law 1319 = .ok (.iload_n 3, 1) := by decide +kernel
theorem dL_law_1320 : decode cL_law 1320 = .ok (.iconst 3, 1) := by decide +kernel
theorem dL_law_1321 : decode cL_law 1321 = .ok (.iadd, 1) := by decide +kernel
theorem dL_law_1322 : decode cL_law 1322 = .ok (.iaload, 1) := by decide +kernel
theorem dL_law_1323 : decode cL_law 1323 = .ok (.ifCond .eq 7, 3) := by decide +kernel
theorem dL_law_1330 : decode cL_law 1330 = .ok (.iconst 0, 1) := by decide +kernel
theorem dL_law_1331 : decode cL_law 1331 = .ok (.invokevirtual 175, 3) := by decide +kernel
theorem dL_law_1334 : decode cL_law 1334 = .ok (.pop, 1) := by decide +kernel
theorem dL_law_1335 : decode cL_law 1335 = .ok (.aload_n 2, 1) := by decide +kernel
theorem dL_law_1336 : decode cL_law 1336 = .ok (.aload_n 0, 1) := by decide +kernel
theorem dL_law_1337 : decode cL_law 1337 = .ok (.iload_n 3, 1) := by decide +kernel
theorem dL_law_1338 : decode cL_law 1338 = .ok (.iconst 1, 1) := by decide +kernel
theorem dL_law_1339 : decode cL_law 1339 = .ok (.iadd, 1) := by decide +kernel
theorem dL_law_1340 : decode cL_law 1340 = .ok (.iaload, 1) := by decide +kernel
theorem dL_law_1341 : decode cL_law 1341 = .ok (.aload_n 0, 1) := by decide +kernel
theorem dL_law_1342 : decode cL_law 1342 = .ok (.iload_n 3, 1) := by decide +kernel
theorem dL_law_1343 : decode cL_law 1343 = .ok (.iconst 2, 1) := by decide +kernel
theorem dL_law_1344 : decode cL_law 1344 = .ok (.iadd, 1) := by decide +kernel
theorem dL_law_1345 : decode cL_law 1345 = .ok (.iaload, 1) := by decide +kernel
theorem dL_law_1346 : decode cL_law 1346 = .ok (.aload_n 0, 1) := by decide +kernel
theorem dL_law_1347 : decode cL_law 1347 = .ok (.iload_n 3, 1) := by decide +kernel
theorem dL_law_1348 : decode cL_law 1348 = .ok (.iconst 3, 1) := by decide +kernel
theorem dL_law_1349 : decode cL_law 1349 = .ok (.iadd, 1) := by decide +kernel
theorem dL_law_1350 : decode cL_law 1350 = .ok (.iaload, 1) := by decide +kernel
theorem dL_law_1351 : decode cL_law 1351 = .ok (.ifCond .eq 7, 3) := by decide +kernel
theorem dL_law_1358 : decode cL_law 1358 = .ok (.iconst 0, 1) := by decide +kernel
theorem dL_law_1359 : decode cL_law 1359 = .ok (.invokevirtual 179, 3) := by decide +kernel
theorem dL_law_1362 : decode cL_law 1362 = .ok (.pop, 1) := by decide +kernel
theorem dL_law_1363 : decode cL_law 1363 = .ok (.goto 207, 3) := by decide +kernel
theorem dL_law_1354 : decode cL_law 1354 = .ok (.iconst 1, 1) := by decide +kernel
theorem dL_law_1355 : decode cL_law 1355 = .ok (.goto 4, 3) := by decide +kernel
theorem dL_law_1326 : decode cL_law 1326 = .ok (.iconst 1, 1) := by decide +kernel
theorem dL_law_1327 : decode cL_law 1327 = .ok (.goto 4, 3) := by decide +kernel
theorem dL_law_1366 : decode cL_law 1366 = .ok (.aload_n 1, 1) := by decide +kernel
theorem dL_law_1367 : decode cL_law 1367 = .ok (.aload_n 0, 1) := by decide +kernel
theorem dL_law_1368 : decode cL_law 1368 = .ok (.iload_n 3, 1) := by decide +kernel
theorem dL_law_1369 : decode cL_law 1369 = .ok (.iconst 1, 1) := by decide +kernel
theorem dL_law_1370 : decode cL_law 1370 = .ok (.iadd, 1) := by decide +kernel
theorem dL_law_1371 : decode cL_law 1371 = .ok (.iaload, 1) := by decide +kernel
theorem dL_law_1372 : decode cL_law 1372 = .ok (.invokevirtual 180, 3) := by decide +kernel
theorem dL_law_1375 : decode cL_law 1375 = .ok (.pop, 1) := by decide +kernel
theorem dL_law_1376 : decode cL_law 1376 = .ok (.aload_n 2, 1) := by decide +kernel
theorem dL_law_1377 : decode cL_law 1377 = .ok (.aload_n 0, 1) := by decide +kernel
theorem dL_law_1378 : decode cL_law 1378 = .ok (.iload_n 3, 1) := by decide +kernel
theorem dL_law_1379 : decode cL_law 1379 = .ok (.iconst 1, 1) := by decide +kernel
theorem dL_law_1380 : decode cL_law 1380 = .ok (.iadd, 1) := by decide +kernel
theorem dL_law_1381 : decode cL_law 1381 = .ok (.iaload, 1) := by decide +kernel
theorem dL_law_1382 : decode cL_law 1382 = .ok (.invokevirtual 184, 3) := by decide +kernel
theorem dL_law_1385 : decode cL_law 1385 = .ok (.pop, 1) := by decide +kernel
theorem dL_law_1386 : decode cL_law 1386 = .ok (.goto 184, 3) := by decide +kernel
theorem dL_law_1389 : decode cL_law 1389 = .ok (.aload_n 1, 1) := by decide +kernel
theorem dL_law_1390 : decode cL_law 1390 = .ok (.aload_n 0, 1) := by decide +kernel
theorem dL_law_1391 : decode cL_law 1391 = .ok (.iload_n 3, 1) := by decide +kernel
theorem dL_law_1392 : decode cL_law 1392 = .ok (.iconst 1, 1) := by decide +kernel
theorem dL_law_1393 : decode cL_law 1393 = .ok (.iadd, 1) := by decide +kernel
theorem dL_law_1394 : decode cL_law 1394 = .ok (.iaload, 1) := by decide +kernel
theorem dL_law_1395 : decode cL_law 1395 = .ok (.invokevirtual 185, 3) := by decide +kernel
theorem dL_law_1398 : decode cL_law 1398 = .ok (.aload_n 2, 1) := by decide +kernel
theorem dL_law_1399 : decode cL_law 1399 = .ok (.aload_n 0, 1) := by decide +kernel
theorem dL_law_1400 : decode cL_law 1400 = .ok (.iload_n 3, 1) := by decide +kernel
theorem dL_law_1401 : decode cL_law 1401 = .ok (.iconst 1, 1) := by decide +kernel
theorem dL_law_1402 : decode cL_law 1402 = .ok (.iadd, 1) := by decide +kernel
theorem dL_law_1403 : decode cL_law 1403 = .ok (.iaload, 1) := by decide +kernel
theorem dL_law_1404 : decode cL_law 1404 = .ok (.invokevirtual 188, 3) := by decide +kernel
theorem dL_law_1407 : decode cL_law 1407 = .ok (.if_icmp .eq 163, 3) := by decide +kernel
theorem dL_law_1412 : decode cL_law 1412 = .ok (.aload_n 1, 1) := by decide +kernel
theorem dL_law_1413 : decode cL_law 1413 = .ok (.aload_n 0, 1) := by decide +kernel
theorem dL_law_1414 : decode cL_law 1414 = .ok (.iload_n 3, 1) := by decide +kernel
theorem dL_law_1415 : decode cL_law 1415 = .ok (.iconst 1, 1) := by decide +kernel
theorem dL_law_1416 : decode cL_law 1416 = .ok (.iadd, 1) := by decide +kernel
theorem dL_law_1417 : decode cL_law 1417 = .ok (.iaload, 1) := by decide +kernel
theorem dL_law_1418 : decode cL_law 1418 = .ok (.invokevirtual 189, 3) := by decide +kernel
theorem dL_law_1421 : decode cL_law 1421 = .ok (.pop, 1) := by decide +kernel
theorem dL_law_1422 : decode cL_law 1422 = .ok (.aload_n 2, 1) := by decide +kernel
theorem dL_law_1423 : decode cL_law 1423 = .ok (.aload_n 0, 1) := by decide +kernel
theorem dL_law_1424 : decode cL_law 1424 = .ok (.iload_n 3, 1) := by decide +kernel
theorem dL_law_1425 : decode cL_law 1425 = .ok (.iconst 1, 1) := by decide +kernel
theorem dL_law_1426 : decode cL_law 1426 = .ok (.iadd, 1) := by decide +kernel
theorem dL_law_1427 : decode cL_law 1427 = .ok (.iaload, 1) := by decide +kernel
theorem dL_law_1428 : decode cL_law 1428 = .ok (.invokevirtual 192, 3) := by decide +kernel
theorem dL_law_1431 : decode cL_law 1431 = .ok (.pop, 1) := by decide +kernel
theorem dL_law_1432 : decode cL_law 1432 = .ok (.goto 138, 3) := by decide +kernel
theorem dL_law_1435 : decode cL_law 1435 = .ok (.aload_n 1, 1) := by decide +kernel
theorem dL_law_1436 : decode cL_law 1436 = .ok (.aload_n 0, 1) := by decide +kernel
theorem dL_law_1437 : decode cL_law 1437 = .ok (.iload_n 3, 1) := by decide +kernel
theorem dL_law_1438 : decode cL_law 1438 = .ok (.iconst 1, 1) := by decide +kernel
theorem dL_law_1439 : decode cL_law 1439 = .ok (.iadd, 1) := by decide +kernel
theorem dL_law_1440 : decode cL_law 1440 = .ok (.iaload, 1) := by decide +kernel
theorem dL_law_1441 : decode cL_law 1441 = .ok (.aload_n 0, 1) := by decide +kernel
theorem dL_law_1442 : decode cL_law 1442 = .ok (.iload_n 3, 1) := by decide +kernel
theorem dL_law_1443 : decode cL_law 1443 = .ok (.iconst 2, 1) := by decide +kernel
theorem dL_law_1444 : decode cL_law 1444 = .ok (.iadd, 1) := by decide +kernel
theorem dL_law_1445 : decode cL_law 1445 = .ok (.iaload, 1) := by decide +kernel
theorem dL_law_1446 : decode cL_law 1446 = .ok (.invokevirtual 193, 3) := by decide +kernel
theorem dL_law_1449 : decode cL_law 1449 = .ok (.pop, 1) := by decide +kernel
theorem dL_law_1450 : decode cL_law 1450 = .ok (.aload_n 2, 1) := by decide +kernel
theorem dL_law_1451 : decode cL_law 1451 = .ok (.aload_n 0, 1) := by decide +kernel
theorem dL_law_1452 : decode cL_law 1452 = .ok (.iload_n 3, 1) := by decide +kernel
theorem dL_law_1453 : decode cL_law 1453 = .ok (.iconst 1, 1) := by decide +kernel
theorem dL_law_1454 : decode cL_law 1454 = .ok (.iadd, 1) := by decide +kernel
theorem dL_law_1455 : decode cL_law 1455 = .ok (.iaload, 1) := by decide +kernel
theorem dL_law_1456 : decode cL_law 1456 = .ok (.aload_n 0, 1) := by decide +kernel
theorem dL_law_1457 : decode cL_law 1457 = .ok (.iload_n 3, 1) := by decide +kernel
theorem dL_law_1458 : decode cL_law 1458 = .ok (.iconst 2, 1) := by decide +kernel
theorem dL_law_1459 : decode cL_law 1459 = .ok (.iadd, 1) := by decide +kernel
theorem dL_law_1460 : decode cL_law 1460 = .ok (.iaload, 1) := by decide +kernel
theorem dL_law_1461 : decode cL_law 1461 = .ok (.invokevirtual 196, 3) := by decide +kernel
theorem dL_law_1464 : decode cL_law 1464 = .ok (.pop, 1) := by decide +kernel
theorem dL_law_1465 : decode cL_law 1465 = .ok (.goto 105, 3) := by decide +kernel
theorem dL_law_1468 : decode cL_law 1468 = .ok (.aload_n 1, 1) := by decide +kernel
theorem dL_law_1469 : decode cL_law 1469 = .ok (.aload_n 0, 1) := by decide +kernel
theorem dL_law_1470 : decode cL_law 1470 = .ok (.iload_n 3, 1) := by decide +kernel
theorem dL_law_1471 : decode cL_law 1471 = .ok (.iconst 1, 1) := by decide +kernel
theorem dL_law_1472 : decode cL_law 1472 = .ok (.iadd, 1) := by decide +kernel
theorem dL_law_1473 : decode cL_law 1473 = .ok (.iaload, 1) := by decide +kernel
theorem dL_law_1474 : decode cL_law 1474 = .ok (.aload_n 0, 1) := by decide +kernel
theorem dL_law_1475 : decode cL_law 1475 = .ok (.iload_n 3, 1) := by decide +kernel
theorem dL_law_1476 : decode cL_law 1476 = .ok (.iconst 2, 1) := by decide +kernel
theorem dL_law_1477 : decode cL_law 1477 = .ok (.iadd, 1) := by decide +kernel
theorem dL_law_1478 : decode cL_law 1478 = .ok (.iaload, 1) := by decide +kernel
theorem dL_law_1479 : decode cL_law 1479 = .ok (.invokevirtual 197, 3) := by decide +kernel
theorem dL_law_1482 : decode cL_law 1482 = .ok (.pop, 1) := by decide +kernel
theorem dL_law_1483 : decode cL_law 1483 = .ok (.aload_n 2, 1) := by decide +kernel
theorem dL_law_1484 : decode cL_law 1484 = .ok (.aload_n 0, 1) := by decide +kernel
theorem dL_law_1485 : decode cL_law 1485 = .ok (.iload_n 3, 1) := by decide +kernel
theorem dL_law_1486 : decode cL_law 1486 = .ok (.iconst 1, 1) := by decide +kernel
theorem dL_law_1487 : decode cL_law 1487 = .ok (.iadd, 1) := by decide +kernel
theorem dL_law_1488 : decode cL_law 1488 = .ok (.iaload, 1) := by decide +kernel
theorem dL_law_1489 : decode cL_law 1489 = .ok (.aload_n 0, 1) := by decide +kernel
theorem dL_law_1490 : decode cL_law 1490 = .ok (.iload_n 3, 1) := by decide +kernel
theorem dL_law_1491 : decode cL_law 1491 = .ok (.iconst 2, 1) := by decide +kernel
theorem dL_law_1492 : decode cL_law 1492 = .ok (.iadd, 1) := by decide +kernel
theorem dL_law_1493 : decode cL_law 1493 = .ok (.iaload, 1) := by decide +kernel
theorem dL_law_1494 : decode cL_law 1494 = .ok (.invokevirtual 200, 3) := by decide +kernel
theorem dL_law_1497 : decode cL_law 1497 = .ok (.pop, 1) := by decide +kernel
theorem dL_law_1498 : decode cL_law 1498 = .ok (.goto 72, 3) := by decide +kernel
theorem dL_law_1501 : decode cL_law 1501 = .ok (.aload_n 1, 1) := by decide +kernel
theorem dL_law_1502 : decode cL_law 1502 = .ok (.aload_n 0, 1) := by decide +kernel
theorem dL_law_1503 : decode cL_law 1503 = .ok (.iload_n 3, 1) := by decide +kernel
theorem dL_law_1504 : decode cL_law 1504 = .ok (.iconst 1, 1) := by decide +kernel
theorem dL_law_1505 : decode cL_law 1505 = .ok (.iadd, 1) := by decide +kernel
theorem dL_law_1506 : decode cL_law 1506 = .ok (.iaload, 1) := by decide +kernel
theorem dL_law_1507 : decode cL_law 1507 = .ok (.invokevirtual 201, 3) := by decide +kernel
theorem dL_law_1510 : decode cL_law 1510 = .ok (.pop, 1) := by decide +kernel
theorem dL_law_1511 : decode cL_law 1511 = .ok (.aload_n 2, 1) := by decide +kernel
theorem dL_law_1512 : decode cL_law 1512 = .ok (.aload_n 0, 1) := by decide +kernel
theorem dL_law_1513 : decode cL_law 1513 = .ok (.iload_n 3, 1) := by decide +kernel
theorem dL_law_1514 : decode cL_law 1514 = .ok (.iconst 1, 1) := by decide +kernel
theorem dL_law_1515 : decode cL_law 1515 = .ok (.iadd, 1) := by decide +kernel
theorem dL_law_1516 : decode cL_law 1516 = .ok (.iaload, 1) := by decide +kernel
theorem dL_law_1517 : decode cL_law 1517 = .ok (.invokevirtual 204, 3) := by decide +kernel
theorem dL_law_1520 : decode cL_law 1520 = .ok (.pop, 1) := by decide +kernel
theorem dL_law_1521 : decode cL_law 1521 = .ok (.goto 49, 3) := by decide +kernel
theorem dL_law_1524 : decode cL_law 1524 = .ok (.aload_n 1, 1) := by decide +kernel
theorem dL_law_1525 : decode cL_law 1525 = .ok (.aload_n 0, 1) := by decide +kernel
theorem dL_law_1526 : decode cL_law 1526 = .ok (.iload_n 3, 1) := by decide +kernel
theorem dL_law_1527 : decode cL_law 1527 = .ok (.iconst 1, 1) := by decide +kernel
theorem dL_law_1528 : decode cL_law 1528 = .ok (.iadd, 1) := by decide +kernel
theorem dL_law_1529 : decode cL_law 1529 = .ok (.iaload, 1) := by decide +kernel
theorem dL_law_1530 : decode cL_law 1530 = .ok (.invokevirtual 205, 3) := by decide +kernel
theorem dL_law_1533 : decode cL_law 1533 = .ok (.pop, 1) := by decide +kernel
theorem dL_law_1534 : decode cL_law 1534 = .ok (.aload_n 2, 1) := by decide +kernel
theorem dL_law_1535 : decode cL_law 1535 = .ok (.aload_n 0, 1) := by decide +kernel
theorem dL_law_1536 : decode cL_law 1536 = .ok (.iload_n 3, 1) := by decide +kernel
theorem dL_law_1537 : decode cL_law 1537 = .ok (.iconst 1, 1) := by decide +kernel
theorem dL_law_1538 : decode cL_law 1538 = .ok (.iadd, 1) := by decide +kernel
theorem dL_law_1539 : decode cL_law 1539 = .ok (.iaload, 1) := by decide +kernel
theorem dL_law_1540 : decode cL_law 1540 = .ok (.invokevirtual 208, 3) := by decide +kernel
theorem dL_law_1543 : decode cL_law 1543 = .ok (.pop, 1) := by decide +kernel
theorem dL_law_1544 : decode cL_law 1544 = .ok (.goto 26, 3) := by decide +kernel
theorem dL_law_1547 : decode cL_law 1547 = .ok (.aload_n 1, 1) := by decide +kernel
theorem dL_law_1548 : decode cL_law 1548 = .ok (.aload_n 0, 1) := by decide +kernel
theorem dL_law_1549 : decode cL_law 1549 = .ok (.iload_n 3, 1) := by decide +kernel
theorem dL_law_1550 : decode cL_law 1550 = .ok (.iconst 1, 1) := by decide +kernel
theorem dL_law_1551 : decode cL_law 1551 = .ok (.iadd, 1) := by decide +kernel
theorem dL_law_1552 : decode cL_law 1552 = .ok (.iaload, 1) := by decide +kernel
theorem dL_law_1553 : decode cL_law 1553 = .ok (.invokevirtual 209, 3) := by decide +kernel
theorem dL_law_1556 : decode cL_law 1556 = .ok (.pop, 1) := by decide +kernel
theorem dL_law_1557 : decode cL_law 1557 = .ok (.aload_n 2, 1) := by decide +kernel
theorem dL_law_1558 : decode cL_law 1558 = .ok (.aload_n 0, 1) := by decide +kernel
theorem dL_law_1559 : decode cL_law 1559 = .ok (.iload_n 3, 1) := by decide +kernel
theorem dL_law_1560 : decode cL_law 1560 = .ok (.iconst 1, 1) := by decide +kernel
theorem dL_law_1561 : decode cL_law 1561 = .ok (.iadd, 1) := by decide +kernel
theorem dL_law_1562 : decode cL_law 1562 = .ok (.iaload, 1) := by decide +kernel
theorem dL_law_1563 : decode cL_law 1563 = .ok (.invokevirtual 212, 3) := by decide +kernel
theorem dL_law_1566 : decode cL_law 1566 = .ok (.pop, 1) := by decide +kernel
theorem dL_law_1567 : decode cL_law 1567 = .ok (.goto 3, 3) := by decide +kernel
set_option maxRecDepth 100000 in
set_option maxHeartbeats 4000000 in
theorem law_c36 {p : Program} {l : Launch} {e : Env} {s : State} {m : MethodId} {below : List Frame} {meth : Method} {c : Code} {b L x0 m0 : Nat} {xs : Nat → Int32} {i : Int} {E : (Nat → Prop) → State → Prop} {cy : Nat → ClassId} {D : va_G} (C : gC p s m #[Value.ref b] c code 4 RL) (hXX : fxX E D cy) (hEs : E (fun q : Nat => s.heap.size ≤ q) s) (hX : va_X b L xs s s.heap) (hbl : b < s.heap.size) (hL : L ≤ 3072) (hi : 0 ≤ i) (hi6 : i + 6 ≤ L) (kk : lawG p l e s m below meth c b 1570 [(0, .ref b), (1, .ref x0), (2, .ref m0), (3, zv i)] [] (lP cy D (fun q : Nat => s.heap.size ≤ q) s.heap x0 m0)) : lawG p l e s m below meth c b 1248 [(0, .ref b), (1, .ref x0), (2, .ref m0), (3, zv i)] [] (lP cy D (fun q : Nat => s.heap.size ≤ q) s.heap x0 m0) := by
  have hE := hXX.1
  have hA : ∀ q : Nat, s.heap.size ≤ q → (fun q : Nat => s.heap.size ≤ q) q := fun _ h => h
  have hbA : ¬ (fun q : Nat => s.heap.size ≤ q) b := Nat.not_le.mpr hbl
  refine l_ex (fun t => ?_)
  refine gq_aln C 1 dL_law_1248 rfl rfl rfl ?_
  refine l_x (ts := []) (As := []) (rest := []) C hE hEs rfl hA (fun gx ax => kx389 hXX) rfl ⟨by decide, by decide⟩ rfl (fun gs ad => trivial) (ret_ok rfl) ⟨Nat.le_of_ble_eq_true rfl, Nat.le_of_ble_eq_true rfl⟩ ⟨Nat.le_of_ble_eq_true rfl, Nat.le_of_ble_eq_true rfl⟩ iV_X11_sittings g_L_163 dL_law_1249 rfl rfl (Nat.le_of_ble_eq_true rfl) rfl (fun z1249 => ?_)
  refine gq_pop C dL_law_1252 rfl rfl ?_
  refine gq_aln C 2 dL_law_1253 rfl rfl rfl ?_
  refine l_m (As := []) (rest := []) C hE hEs rfl hA (mc_fx (fun am => km272 hE) rfl (by decide +kernel) ⟨by decide, by decide, by decide⟩ (fun am ha => (show fx_ty _ am [.inr (.inr 1)] [.ref m0] from oks_ok ⟨rt_ok ⟨0, ha, rfl⟩ (by decide), trivial⟩)) (ret_ok rfl)) ⟨Nat.le_of_ble_eq_true rfl, Nat.le_of_ble_eq_true rfl⟩ ⟨Nat.le_of_ble_eq_true rfl, Nat.le_of_ble_eq_true rfl⟩ iV_X12_sittings g_L_166 dL_law_1254 rfl rfl (Nat.le_of_ble_eq_true rfl) rfl (fun z1254 => ?_)
  refine gq_pop C dL_law_1257 rfl rfl ?_
  refine gq_goto C 1570 dL_law_1258 (by decide) ?_
  exact l_in kk
set_option maxRecDepth 100000 in
set_option maxHeartbeats 4000000 in
theorem law_c37 {p : Program} {l : Launch} {e : Env} {s : State} {m : MethodId} {below : List Frame} {meth : Method} {c : Code} {b L x0 m0 : Nat} {xs : Nat → Int32} {i : Int} {E : (Nat → Prop) → State → Prop} {cy : Nat → ClassId} {D : va_G} (C : gC p s m #[Value.ref b] c code 4 RL) (hXX : fxX E D cy) (hEs : E (fun q : Nat => s.heap.size ≤ q) s) (hX : va_X b L xs s s.heap) (hbl : b < s.heap.size) (hL : L ≤ 3072) (hi : 0 ≤ i) (hi6 : i + 6 ≤ L) (kk : lawG p l e s m below meth c b 1570 [(0, .ref b), (1, .ref x0), (2, .ref m0), (3, zv i)] [] (lP cy D (fun q : Nat => s.heap.size ≤ q) s.heap x0 m0)) : lawG p l e s m below meth c b 1261 [(0, .ref b), (1, .ref x0), (2, .ref m0), (3, zv i)] [] (lP cy D (fun q : Nat => s.heap.size ≤ q) s.heap x0 m0) := by
  have hE := hXX.1
  have hA : ∀ q : Nat, s.heap.size ≤ q → (fun q : Nat => s.heap.size ≤ q) q := fun _ h => h
  have hbA : ¬ (fun q : Nat => s.heap.size ≤ q) b := Nat.not_le.mpr hbl
  refine l_ex (fun t => ?_)
  refine gq_aln C 1 dL_law_1261 rfl rfl rfl ?_
  refine gq_aln C 0 dL_law_1262 rfl rfl rfl ?_
  refine gq_iln C 3 dL_law_1263 rfl rfl rfl ?_
  refine gq_ic C dL_law_1264 rfl ?_
  refine gq_add C dL_law_1265 rfl ?_
  refine l_sld C hX hbl hbA hL (by omega) (by omega) dL_law_1266 rfl ?_
  refine l_x (ts := [.inl (-2147483648, 2147483647)]) (As := [zv (xs (Int.toNat (i + 1))).toInt]) (rest := []) C hE hEs rfl hA (fun gx ax => kx390 hXX) rfl ⟨by decide, by decide⟩ rfl (fun gs ad => ⟨ok_top _, trivial⟩) (ret_ok rfl) ⟨Nat.le_of_ble_eq_true rfl, Nat.le_of_ble_eq_true rfl⟩ ⟨Nat.le_of_ble_eq_true rfl, Nat.le_of_ble_eq_true rfl⟩ iV_X11_comes g_L_167 dL_law_1267 rfl rfl (Nat.le_of_ble_eq_true rfl) rfl (fun z1267 => ?_)
  refine gq_pop C dL_law_1270 rfl rfl ?_
  refine gq_aln C 2 dL_law_1271 rfl rfl rfl ?_
  refine gq_aln C 0 dL_law_1272 rfl rfl rfl ?_
  refine gq_iln C 3 dL_law_1273 rfl rfl rfl ?_
  refine gq_ic C dL_law_1274 rfl ?_
  refine gq_add C dL_law_1275 rfl ?_
  refine l_sld C hX hbl hbA hL (by omega) (by omega) dL_law_1276 rfl ?_
  refine l_m (As := [zv (xs (Int.toNat (i + 1))).toInt]) (rest := []) C hE hEs rfl hA (mc_fx (fun am => km273 hE) rfl (by decide +kernel) ⟨by decide, by decide, by decide⟩ (fun am ha => (show fx_ty _ am [.inr (.inr 1), .inl (-2147483648, 2147483647)] [.ref m0, zv (xs (Int.toNat (i + 1))).toInt] from oks_ok ⟨rt_ok ⟨0, ha, rfl⟩ (by decide), ok_top _, trivial⟩)) (ret_ok rfl)) ⟨Nat.le_of_ble_eq_true rfl, Nat.le_of_ble_eq_true rfl⟩ ⟨Nat.le_of_ble_eq_true rfl, Nat.le_of_ble_eq_true rfl⟩ iV_X12_comes g_L_170 dL_law_1277 rfl rfl (Nat.le_of_ble_eq_true rfl) rfl (fun z1277 => ?_)
  refine gq_pop C dL_law_1280 rfl rfl ?_
  refine gq_goto C 1570 dL_law_1281 (by decide) ?_
  exact l_in kk
set_option maxRecDepth 100000 in
set_option maxHeartbeats 4000000 in
theorem law_c38 {p : Program} {l : Launch} {e : Env} {s : State} {m : MethodId} {below : List Frame} {meth : Method} {c : Code} {b L x0 m0 : Nat} {xs : Nat → Int32} {i : Int} {E : (Nat → Prop) → State → Prop} {cy : Nat → ClassId} {D : va_G} (C : gC p s m #[Value.ref b] c code 4 RL) (hXX : fxX E D cy) (hEs : E (fun q : Nat => s.heap.size ≤ q) s) (hX : va_X b L xs s s.heap) (hbl : b < s.heap.size) (hL : L ≤ 3072) (hi : 0 ≤ i) (hi6 : i + 6 ≤ L) (kk : lawG p l e s m below meth c b 1570 [(0, .ref b), (1, .ref x0), (2, .ref m0), (3, zv i)] [] (lP cy D (fun q : Nat => s.heap.size ≤ q) s.heap x0 m0)) : lawG p l e s m below meth c b 1284 [(0, .ref b), (1, .ref x0), (2, .ref m0), (3, zv i)] [] (lP cy D (fun q : Nat => s.heap.size ≤ q) s.heap x0 m0) := by
  have hE := hXX.1
  have hA : ∀ q : Nat, s.heap.size ≤ q → (fun q : Nat => s.heap.size ≤ q) q := fun _ h => h
  have hbA : ¬ (fun q : Nat => s.heap.size ≤ q) b := Nat.not_le.mpr hbl
  refine l_ex (fun t => ?_)
  refine gq_aln C 1 dL_law_1284 rfl rfl rfl ?_
  refine gq_aln C 0 dL_law_1285 rfl rfl rfl ?_
  refine gq_iln C 3 dL_law_1286 rfl rfl rfl ?_
  refine gq_ic C dL_law_1287 rfl ?_
  refine gq_add C dL_law_1288 rfl ?_
  refine l_sld C hX hbl hbA hL (by omega) (by omega) dL_law_1289 rfl ?_
  refine l_x (ts := [.inl (-2147483648, 2147483647)]) (As := [zv (xs (Int.toNat (i + 1))).toInt]) (rest := []) C hE hEs rfl hA (fun gx ax => kx392 hXX) rfl ⟨by decide, by decide⟩ rfl (fun gs ad => ⟨ok_top _, trivial⟩) (ret_ok rfl) ⟨Nat.le_of_ble_eq_true rfl, Nat.le_of_ble_eq_true rfl⟩ ⟨Nat.le_of_ble_eq_true rfl, Nat.le_of_ble_eq_true rfl⟩ iV_X11_lies g_L_171 dL_law_1290 rfl rfl (Nat.le_of_ble_eq_true rfl) rfl (fun z1290 => ?_)
  refine gq_pop C dL_law_1293 rfl rfl ?_
  refine gq_aln C 2 dL_law_1294 rfl rfl rfl ?_
  refine gq_aln C 0 dL_law_1295 rfl rfl rfl ?_
  refine gq_iln C 3 dL_law_1296 rfl rfl rfl ?_
  refine gq_ic C dL_law_1297 rfl ?_
  refine gq_add C dL_law_1298 rfl ?_
  refine l_sld C hX hbl hbA hL (by omega) (by omega) dL_law_1299 rfl ?_
  refine l_m (As := [zv (xs (Int.toNat (i + 1))).toInt]) (rest := []) C hE hEs rfl hA (mc_fx (fun am => km275 hE) rfl (by decide +kernel) ⟨by decide, by decide, by decide⟩ (fun am ha => (show fx_ty _ am [.inr (.inr 1), .inl (-2147483648, 2147483647)] [.ref m0, zv (xs (Int.toNat (i + 1))).toInt] from oks_ok ⟨rt_ok ⟨0, ha, rfl⟩ (by decide), ok_top _, trivial⟩)) (ret_ok rfl)) ⟨Nat.le_of_ble_eq_true rfl, Nat.le_of_ble_eq_true rfl⟩ ⟨Nat.le_of_ble_eq_true rfl, Nat.le_of_ble_eq_true rfl⟩ iV_X12_lies g_L_174 dL_law_1300 rfl rfl (Nat.le_of_ble_eq_true rfl) rfl (fun z1300 => ?_)
  refine gq_pop C dL_law_1303 rfl rfl ?_
  refine gq_goto C 1570 dL_law_1304 (by decide) ?_
  exact l_in kk
set_option maxRecDepth 100000 in
set_option maxHeartbeats 4000000 in
theorem law_c39 {p : Program} {l : Launch} {e : Env} {s : State} {m : MethodId} {below : List Frame} {meth : Method} {c : Code} {b L x0 m0 : Nat} {xs : Nat → Int32} {i : Int} {E : (Nat → Prop) → State → Prop} {cy : Nat → ClassId} {D : va_G} (C : gC p s m #[Value.ref b] c code 4 RL) (hXX : fxX E D cy) (hEs : E (fun q : Nat => s.heap.size ≤ q) s) (hX : va_X b L xs s s.heap) (hbl : b < s.heap.size) (hL : L ≤ 3072) (hi : 0 ≤ i) (hi6 : i + 6 ≤ L) (kk : lawG p l e s m below meth c b 1570 [(0, .ref b), (1, .ref x0), (2, .ref m0), (3, zv i)] [] (lP cy D (fun q : Nat => s.heap.size ≤ q) s.heap x0 m0)) : lawG p l e s m below meth c b 1307 [(0, .ref b), (1, .ref x0), (2, .ref m0), (3, zv i)] [] (lP cy D (fun q : Nat => s.heap.size ≤ q) s.heap x0 m0) := by
  have hE := hXX.1
  have hA : ∀ q : Nat, s.heap.size ≤ q → (fun q : Nat => s.heap.size ≤ q) q := fun _ h => h
  have hbA : ¬ (fun q : Nat => s.heap.size ≤ q) b := Nat.not_le.mpr hbl
  refine l_ex (fun t => ?_)
  refine gq_aln C 1 dL_law_1307 rfl rfl rfl ?_
  refine gq_aln C 0 dL_law_1308 rfl rfl rfl ?_
  refine gq_iln C 3 dL_law_1309 rfl rfl rfl ?_
  refine gq_ic C dL_law_1310 rfl ?_
  refine gq_add C dL_law_1311 rfl ?_
  refine l_sld C hX hbl hbA hL (by omega) (by omega) dL_law_1312 rfl ?_
  refine gq_aln C 0 dL_law_1313 rfl rfl rfl ?_
  refine gq_iln C 3 dL_law_1314 rfl rfl rfl ?_
  refine gq_ic C dL_law_1315 rfl ?_
  refine gq_add C dL_law_1316 rfl ?_
  refine l_sld C hX hbl hbA hL (by omega) (by omega) dL_law_1317 rfl ?_
  refine gq_aln C 0 dL_law_1318 rfl rfl rfl ?_
  refine gq_iln C 3 dL_law_1319 rfl rfl rfl ?_
  refine gq_ic C dL_law_1320 rfl ?_
  refine gq_add C dL_law_1321 rfl ?_
  refine l_sld C hX hbl hbA hL (by omega) (by omega) dL_law_1322 rfl ?_
  refine gq_if C 1330 dL_law_1323 (by decide) (rg_t _) rfl (fun _ => ?_) (fun _ => ?_)
  · refine gq_ic C dL_law_1330 rfl ?_
    refine l_x (ts := [.inl (-2147483648, 2147483647), .inl (-2147483648, 2147483647), .inl (0, 1)]) (As := [zv (xs (Int.toNat (i + 1))).toInt, zv (xs (Int.toNat (i + 2))).toInt, zv 0]) (rest := []) C hE hEs rfl hA (fun gx ax => kx394 hXX) rfl ⟨by decide, by decide⟩ rfl (fun gs ad => ⟨ok_top _, ok_top _, ⟨_, rfl, by decide +kernel, by decide +kernel⟩, trivial⟩) (ret_ok rfl) ⟨Nat.le_of_ble_eq_true rfl, Nat.le_of_ble_eq_true rfl⟩ ⟨Nat.le_of_ble_eq_true rfl, Nat.le_of_ble_eq_true rfl⟩ iV_X11_hint g_L_175 dL_law_1331 rfl rfl (Nat.le_of_ble_eq_true rfl) rfl (fun z1331 => ?_)
    refine gq_pop C dL_law_1334 rfl rfl ?_
    refine gq_aln C 2 dL_law_1335 rfl rfl rfl ?_
    refine gq_aln C 0 dL_law_1336 rfl rfl rfl ?_
    refine gq_iln C 3 dL_law_1337 rfl rfl rfl ?_
    refine gq_ic C dL_law_1338 rfl ?_
    refine gq_add C dL_law_1339 rfl ?_
    refine l_sld C hX hbl hbA hL (by omega) (by omega) dL_law_1340 rfl ?_
    refine gq_aln C 0 dL_law_1341 rfl rfl rfl ?_
    refine gq_iln C 3 dL_law_1342 rfl rfl rfl ?_
    refine gq_ic C dL_law_1343 rfl ?_
    refine gq_add C dL_law_1344 rfl ?_
    refine l_sld C hX hbl hbA hL (by omega) (by omega) dL_law_1345 rfl ?_
    refine gq_aln C 0 dL_law_1346 rfl rfl rfl ?_
    refine gq_iln C 3 dL_law_1347 rfl rfl rfl ?_
    refine gq_ic C dL_law_1348 rfl ?_
    refine gq_add C dL_law_1349 rfl ?_
    refine l_sld C hX hbl hbA hL (by omega) (by omega) dL_law_1350 rfl ?_
    refine gq_if C 1358 dL_law_1351 (by decide) (rg_t _) rfl (fun _ => ?_) (fun _ => ?_)
    · refine gq_ic C dL_law_1358 rfl ?_
      refine l_m (As := [zv (xs (Int.toNat (i + 1))).toInt, zv (xs (Int.toNat (i + 2))).toInt, zv 0]) (rest := []) C hE hEs rfl hA (mc_fx (fun am => km276 hE) rfl (by decide +kernel) ⟨by decide, by decide, by decide⟩ (fun am ha => (show fx_ty _ am [.inr (.inr 1), .inl (-2147483648, 2147483647), .inl (-2147483648, 2147483647), .inl (0, 1)] [.ref m0, zv (xs (Int.toNat (i + 1))).toInt, zv (xs (Int.toNat (i + 2))).toInt, zv 0] from oks_ok ⟨rt_ok ⟨0, ha, rfl⟩ (by decide), ok_top _, ok_top _, ⟨_, rfl, by decide +kernel, by decide +kernel⟩, trivial⟩)) (ret_ok rfl)) ⟨Nat.le_of_ble_eq_true rfl, Nat.le_of_ble_eq_true rfl⟩ ⟨Nat.le_of_ble_eq_true rfl, Nat.le_of_ble_eq_true rfl⟩ iV_X12_hint g_L_179 dL_law_1359 rfl rfl (Nat.le_of_ble_eq_true rfl) rfl (fun z1359 => ?_)
      refine gq_pop C dL_law_1362 rfl rfl ?_
      refine gq_goto C 1570 dL_law_1363 (by decide) ?_
      exact l_in kk
    · refine gq_ic C dL_law_1354 rfl ?_
      refine gq_goto C 1359 dL_law_1355 (by decide) ?_
      refine l_m (As := [zv (xs (Int.toNat (i + 1))).toInt, zv (xs (Int.toNat (i + 2))).toInt, zv 1]) (rest := []) C hE hEs rfl hA (mc_fx (fun am => km276 hE) rfl (by decide +kernel) ⟨by decide, by decide, by decide⟩ (fun am ha => (show fx_ty _ am [.inr (.inr 1), .inl (-2147483648, 2147483647), .inl (-2147483648, 2147483647), .inl (0, 1)] [.ref m0, zv (xs (Int.toNat (i + 1))).toInt, zv (xs (Int.toNat (i + 2))).toInt, zv 1] from oks_ok ⟨rt_ok ⟨0, ha, rfl⟩ (by decide), ok_top _, ok_top _, ⟨_, rfl, by decide +kernel, by decide +kernel⟩, trivial⟩)) (ret_ok rfl)) ⟨Nat.le_of_ble_eq_true rfl, Nat.le_of_ble_eq_true rfl⟩ ⟨Nat.le_of_ble_eq_true rfl, Nat.le_of_ble_eq_true rfl⟩ iV_X12_hint g_L_179 dL_law_1359 rfl rfl (Nat.le_of_ble_eq_true rfl) rfl (fun z1359 => ?_)
      refine gq_pop C dL_law_1362 rfl rfl ?_
      refine gq_goto C 1570 dL_law_1363 (by decide) ?_
      exact l_in kk
  · refine gq_ic C dL_law_1326 rfl ?_
    refine gq_goto C 1331 dL_law_1327 (by decide) ?_
    refine l_x (ts := [.inl (-2147483648, 2147483647), .inl (-2147483648, 2147483647), .inl (0, 1)]) (As := [zv (xs (Int.toNat (i + 1))).toInt, zv (xs (Int.toNat (i + 2))).toInt, zv 1]) (rest := []) C hE hEs rfl hA (fun gx ax => kx394 hXX) rfl ⟨by decide, by decide⟩ rfl (fun gs ad => ⟨ok_top _, ok_top _, ⟨_, rfl, by decide +kernel, by decide +kernel⟩, trivial⟩) (ret_ok rfl) ⟨Nat.le_of_ble_eq_true rfl, Nat.le_of_ble_eq_true rfl⟩ ⟨Nat.le_of_ble_eq_true rfl, Nat.le_of_ble_eq_true rfl⟩ iV_X11_hint g_L_175 dL_law_1331 rfl rfl (Nat.le_of_ble_eq_true rfl) rfl (fun z1331 => ?_)
    refine gq_pop C dL_law_1334 rfl rfl ?_
    refine gq_aln C 2 dL_law_1335 rfl rfl rfl ?_
    refine gq_aln C 0 dL_law_1336 rfl rfl rfl ?_
    refine gq_iln C 3 dL_law_1337 rfl rfl rfl ?_
    refine gq_ic C dL_law_1338 rfl ?_
    refine gq_add C dL_law_1339 rfl ?_
    refine l_sld C hX hbl hbA hL (by omega) (by omega) dL_law_1340 rfl ?_
    refine gq_aln C 0 dL_law_1341 rfl rfl rfl ?_
    refine gq_iln C 3 dL_law_1342 rfl rfl rfl ?_
    refine gq_ic C dL_law_1343 rfl ?_
    refine gq_add C dL_law_1344 rfl ?_
    refine l_sld C hX hbl hbA hL (by omega) (by omega) dL_law_1345 rfl ?_
    refine gq_aln C 0 dL_law_1346 rfl rfl rfl ?_
    refine gq_iln C 3 dL_law_1347 rfl rfl rfl ?_
    refine gq_ic C dL_law_1348 rfl ?_
    refine gq_add C dL_law_1349 rfl ?_
    refine l_sld C hX hbl hbA hL (by omega) (by omega) dL_law_1350 rfl ?_
    refine gq_if C 1358 dL_law_1351 (by decide) (rg_t _) rfl (fun _ => ?_) (fun _ => ?_)
    · refine gq_ic C dL_law_1358 rfl ?_
      refine l_m (As := [zv (xs (Int.toNat (i + 1))).toInt, zv (xs (Int.toNat (i + 2))).toInt, zv 0]) (rest := []) C hE hEs rfl hA (mc_fx (fun am => km276 hE) rfl (by decide +kernel) ⟨by decide, by decide, by decide⟩ (fun am ha => (show fx_ty _ am [.inr (.inr 1), .inl (-2147483648, 2147483647), .inl (-2147483648, 2147483647), .inl (0, 1)] [.ref m0, zv (xs (Int.toNat (i + 1))).toInt, zv (xs (Int.toNat (i + 2))).toInt, zv 0] from oks_ok ⟨rt_ok ⟨0, ha, rfl⟩ (by decide), ok_top _, ok_top _, ⟨_, rfl, by decide +kernel, by decide +kernel⟩, trivial⟩)) (ret_ok rfl)) ⟨Nat.le_of_ble_eq_true rfl, Nat.le_of_ble_eq_true rfl⟩ ⟨Nat.le_of_ble_eq_true rfl, Nat.le_of_ble_eq_true rfl⟩ iV_X12_hint g_L_179 dL_law_1359 rfl rfl (Nat.le_of_ble_eq_true rfl) rfl (fun z1359 => ?_)
      refine gq_pop C dL_law_1362 rfl rfl ?_
      refine gq_goto C 1570 dL_law_1363 (by decide) ?_
      exact l_in kk
    · refine gq_ic C dL_law_1354 rfl ?_
      refine gq_goto C 1359 dL_law_1355 (by decide) ?_
      refine l_m (As := [zv (xs (Int.toNat (i + 1))).toInt, zv (xs (Int.toNat (i + 2))).toInt, zv 1]) (rest := []) C hE hEs rfl hA (mc_fx (fun am => km276 hE) rfl (by decide +kernel) ⟨by decide, by decide, by decide⟩ (fun am ha => (show fx_ty _ am [.inr (.inr 1), .inl (-2147483648, 2147483647), .inl (-2147483648, 2147483647), .inl (0, 1)] [.ref m0, zv (xs (Int.toNat (i + 1))).toInt, zv (xs (Int.toNat (i + 2))).toInt, zv 1] from oks_ok ⟨rt_ok ⟨0, ha, rfl⟩ (by decide), ok_top _, ok_top _, ⟨_, rfl, by decide +kernel, by decide +kernel⟩, trivial⟩)) (ret_ok rfl)) ⟨Nat.le_of_ble_eq_true rfl, Nat.le_of_ble_eq_true rfl⟩ ⟨Nat.le_of_ble_eq_true rfl, Nat.le_of_ble_eq_true rfl⟩ iV_X12_hint g_L_179 dL_law_1359 rfl rfl (Nat.le_of_ble_eq_true rfl) rfl (fun z1359 => ?_)
      refine gq_pop C dL_law_1362 rfl rfl ?_
      refine gq_goto C 1570 dL_law_1363 (by decide) ?_
      exact l_in kk
set_option maxRecDepth 100000 in
set_option maxHeartbeats 4000000 in
theorem law_c40 {p : Program} {l : Launch} {e : Env} {s : State} {m : MethodId} {below : List Frame} {meth : Method} {c : Code} {b L x0 m0 : Nat} {xs : Nat → Int32} {i : Int} {E : (Nat → Prop) → State → Prop} {cy : Nat → ClassId} {D : va_G} (C : gC p s m #[Value.ref b] c code 4 RL) (hXX : fxX E D cy) (hEs : E (fun q : Nat => s.heap.size ≤ q) s) (hX : va_X b L xs s s.heap) (hbl : b < s.heap.size) (hL : L ≤ 3072) (hi : 0 ≤ i) (hi6 : i + 6 ≤ L) (kk : lawG p l e s m below meth c b 1570 [(0, .ref b), (1, .ref x0), (2, .ref m0), (3, zv i)] [] (lP cy D (fun q : Nat => s.heap.size ≤ q) s.heap x0 m0)) : lawG p l e s m below meth c b 1366 [(0, .ref b), (1, .ref x0), (2, .ref m0), (3, zv i)] [] (lP cy D (fun q : Nat => s.heap.size ≤ q) s.heap x0 m0) := by
  have hE := hXX.1
  have hA : ∀ q : Nat, s.heap.size ≤ q → (fun q : Nat => s.heap.size ≤ q) q := fun _ h => h
  have hbA : ¬ (fun q : Nat => s.heap.size ≤ q) b := Nat.not_le.mpr hbl
  refine l_ex (fun t => ?_)
  refine gq_aln C 1 dL_law_1366 rfl rfl rfl ?_
  refine gq_aln C 0 dL_law_1367 rfl rfl rfl ?_
  refine gq_iln C 3 dL_law_1368 rfl rfl rfl ?_
  refine gq_ic C dL_law_1369 rfl ?_
  refine gq_add C dL_law_1370 rfl ?_
  refine l_sld C hX hbl hbA hL (by omega) (by omega) dL_law_1371 rfl ?_
  refine l_x (ts := [.inl (-2147483648, 2147483647)]) (As := [zv (xs (Int.toNat (i + 1))).toInt]) (rest := []) C hE hEs rfl hA (fun gx ax => kx396 hXX) rfl ⟨by decide, by decide⟩ rfl (fun gs ad => ⟨ok_top _, trivial⟩) (ret_ok rfl) ⟨Nat.le_of_ble_eq_true rfl, Nat.le_of_ble_eq_true rfl⟩ ⟨Nat.le_of_ble_eq_true rfl, Nat.le_of_ble_eq_true rfl⟩ iV_X11_untell g_L_180 dL_law_1372 rfl rfl (Nat.le_of_ble_eq_true rfl) rfl (fun z1372 => ?_)
  refine gq_pop C dL_law_1375 rfl rfl ?_
  refine gq_aln C 2 dL_law_1376 rfl rfl rfl ?_
  refine gq_aln C 0 dL_law_1377 rfl rfl rfl ?_
  refine gq_iln C 3 dL_law_1378 rfl rfl rfl ?_
  refine gq_ic C dL_law_1379 rfl ?_
  refine gq_add C dL_law_1380 rfl ?_
  refine l_sld C hX hbl hbA hL (by omega) (by omega) dL_law_1381 rfl ?_
  refine l_m (As := [zv (xs (Int.toNat (i + 1))).toInt]) (rest := []) C hE hEs rfl hA (mc_fx (fun am => km278 hE) rfl (by decide +kernel) ⟨by decide, by decide, by decide⟩ (fun am ha => (show fx_ty _ am [.inr (.inr 1), .inl (-2147483648, 2147483647)] [.ref m0, zv (xs (Int.toNat (i + 1))).toInt] from oks_ok ⟨rt_ok ⟨0, ha, rfl⟩ (by decide), ok_top _, trivial⟩)) (ret_ok rfl)) ⟨Nat.le_of_ble_eq_true rfl, Nat.le_of_ble_eq_true rfl⟩ ⟨Nat.le_of_ble_eq_true rfl, Nat.le_of_ble_eq_true rfl⟩ iV_X12_untell g_L_184 dL_law_1382 rfl rfl (Nat.le_of_ble_eq_true rfl) rfl (fun z1382 => ?_)
  refine gq_pop C dL_law_1385 rfl rfl ?_
  refine gq_goto C 1570 dL_law_1386 (by decide) ?_
  exact l_in kk
set_option maxRecDepth 100000 in
set_option maxHeartbeats 4000000 in
theorem law_c41 {p : Program} {l : Launch} {e : Env} {s : State} {m : MethodId} {below : List Frame} {meth : Method} {c : Code} {b L x0 m0 : Nat} {xs : Nat → Int32} {i : Int} {E : (Nat → Prop) → State → Prop} {cy : Nat → ClassId} {D : va_G} (C : gC p s m #[Value.ref b] c code 4 RL) (hXX : fxX E D cy) (hEs : E (fun q : Nat => s.heap.size ≤ q) s) (hX : va_X b L xs s s.heap) (hbl : b < s.heap.size) (hL : L ≤ 3072) (hi : 0 ≤ i) (hi6 : i + 6 ≤ L) (kk : lawG p l e s m below meth c b 1570 [(0, .ref b), (1, .ref x0), (2, .ref m0), (3, zv i)] [] (lP cy D (fun q : Nat => s.heap.size ≤ q) s.heap x0 m0)) : lawG p l e s m below meth c b 1389 [(0, .ref b), (1, .ref x0), (2, .ref m0), (3, zv i)] [] (lP cy D (fun q : Nat => s.heap.size ≤ q) s.heap x0 m0) := by
  have hE := hXX.1
  have hA : ∀ q : Nat, s.heap.size ≤ q → (fun q : Nat => s.heap.size ≤ q) q := fun _ h => h
  have hbA : ¬ (fun q : Nat => s.heap.size ≤ q) b := Nat.not_le.mpr hbl
  refine l_ex (fun t => ?_)
  refine gq_aln C 1 dL_law_1389 rfl rfl rfl ?_
  refine gq_aln C 0 dL_law_1390 rfl rfl rfl ?_
  refine gq_iln C 3 dL_law_1391 rfl rfl rfl ?_
  refine gq_ic C dL_law_1392 rfl ?_
  refine gq_add C dL_law_1393 rfl ?_
  refine l_sld C hX hbl hbA hL (by omega) (by omega) dL_law_1394 rfl ?_
  refine l_xl (rest := []) (rg_t _) C hE hEs rfl hA ⟨Nat.le_of_ble_eq_true rfl, Nat.le_of_ble_eq_true rfl⟩ ⟨Nat.le_of_ble_eq_true rfl, Nat.le_of_ble_eq_true rfl⟩ iV_X11_later g_L_185 dL_law_1395 (Nat.le_of_ble_eq_true rfl) rfl (fun t1 r1 hbt h1 => ?_)
  refine gq_aln C 2 dL_law_1398 rfl rfl rfl ?_
  refine gq_aln C 0 dL_law_1399 rfl rfl rfl ?_
  refine gq_iln C 3 dL_law_1400 rfl rfl rfl ?_
  refine gq_ic C dL_law_1401 rfl ?_
  refine gq_add C dL_law_1402 rfl ?_
  refine l_sld C hX hbl hbA hL (by omega) (by omega) dL_law_1403 rfl ?_
  refine l_ml (rest := [zv r1]) (rg_t _) C hE hEs rfl hA ⟨Nat.le_of_ble_eq_true rfl, Nat.le_of_ble_eq_true rfl⟩ ⟨Nat.le_of_ble_eq_true rfl, Nat.le_of_ble_eq_true rfl⟩ iV_X12_later g_L_188 dL_law_1404 (Nat.le_of_ble_eq_true rfl) rfl (fun t2 r2 h2 => ?_)
  have hrr : r2 = r1 := by unfold LT at h1 h2; omega
  have htt : t2 = t1 := by unfold LT at h1 h2; omega
  have hrg : rg r1 := by unfold LT at h1; constructor <;> omega
  subst hrr htt
  refine gq_cmp C 1570 dL_law_1407 (by decide) hrg hrg rfl (fun _ => ?_) (fun h => absurd rfl (show ¬ _ = _ from h))
  exact l_in kk
set_option maxRecDepth 100000 in
set_option maxHeartbeats 4000000 in
theorem law_c42 {p : Program} {l : Launch} {e : Env} {s : State} {m : MethodId} {below : List Frame} {meth : Method} {c : Code} {b L x0 m0 : Nat} {xs : Nat → Int32} {i : Int} {E : (Nat → Prop) → State → Prop} {cy : Nat → ClassId} {D : va_G} (C : gC p s m #[Value.ref b] c code 4 RL) (hXX : fxX E D cy) (hEs : E (fun q : Nat => s.heap.size ≤ q) s) (hX : va_X b L xs s s.heap) (hbl : b < s.heap.size) (hL : L ≤ 3072) (hi : 0 ≤ i) (hi6 : i + 6 ≤ L) (kk : lawG p l e s m below meth c b 1570 [(0, .ref b), (1, .ref x0), (2, .ref m0), (3, zv i)] [] (lP cy D (fun q : Nat => s.heap.size ≤ q) s.heap x0 m0)) : lawG p l e s m below meth c b 1412 [(0, .ref b), (1, .ref x0), (2, .ref m0), (3, zv i)] [] (lP cy D (fun q : Nat => s.heap.size ≤ q) s.heap x0 m0) := by
  have hE := hXX.1
  have hA : ∀ q : Nat, s.heap.size ≤ q → (fun q : Nat => s.heap.size ≤ q) q := fun _ h => h
  have hbA : ¬ (fun q : Nat => s.heap.size ≤ q) b := Nat.not_le.mpr hbl
  refine l_ex (fun t => ?_)
  refine gq_aln C 1 dL_law_1412 rfl rfl rfl ?_
  refine gq_aln C 0 dL_law_1413 rfl rfl rfl ?_
  refine gq_iln C 3 dL_law_1414 rfl rfl rfl ?_
  refine gq_ic C dL_law_1415 rfl ?_
  refine gq_add C dL_law_1416 rfl ?_
  refine l_sld C hX hbl hbA hL (by omega) (by omega) dL_law_1417 rfl ?_
  refine l_x (ts := [.inl (-2147483648, 2147483647)]) (As := [zv (xs (Int.toNat (i + 1))).toInt]) (rest := []) C hE hEs rfl hA (fun gx ax => kx399 hXX) rfl ⟨by decide, by decide⟩ rfl (fun gs ad => ⟨ok_top _, trivial⟩) (ret_ok rfl) ⟨Nat.le_of_ble_eq_true rfl, Nat.le_of_ble_eq_true rfl⟩ ⟨Nat.le_of_ble_eq_true rfl, Nat.le_of_ble_eq_true rfl⟩ iV_X11_seats g_L_189 dL_law_1418 rfl rfl (Nat.le_of_ble_eq_true rfl) rfl (fun z1418 => ?_)
  refine gq_pop C dL_law_1421 rfl rfl ?_
  refine gq_aln C 2 dL_law_1422 rfl rfl rfl ?_
  refine gq_aln C 0 dL_law_1423 rfl rfl rfl ?_
  refine gq_iln C 3 dL_law_1424 rfl rfl rfl ?_
  refine gq_ic C dL_law_1425 rfl ?_
  refine gq_add C dL_law_1426 rfl ?_
  refine l_sld C hX hbl hbA hL (by omega) (by omega) dL_law_1427 rfl ?_
  refine l_m (As := [zv (xs (Int.toNat (i + 1))).toInt]) (rest := []) C hE hEs rfl hA (mc_fx (fun am => km281 hE) rfl (by decide +kernel) ⟨by decide, by decide, by decide⟩ (fun am ha => (show fx_ty _ am [.inr (.inr 1), .inl (-2147483648, 2147483647)] [.ref m0, zv (xs (Int.toNat (i + 1))).toInt] from oks_ok ⟨rt_ok ⟨0, ha, rfl⟩ (by decide), ok_top _, trivial⟩)) (ret_ok rfl)) ⟨Nat.le_of_ble_eq_true rfl, Nat.le_of_ble_eq_true rfl⟩ ⟨Nat.le_of_ble_eq_true rfl, Nat.le_of_ble_eq_true rfl⟩ iV_X12_seats g_L_192 dL_law_1428 rfl rfl (Nat.le_of_ble_eq_true rfl) rfl (fun z1428 => ?_)
  refine gq_pop C dL_law_1431 rfl rfl ?_
  refine gq_goto C 1570 dL_law_1432 (by decide) ?_
  exact l_in kk
set_option maxRecDepth 100000 in
set_option maxHeartbeats 4000000 in
theorem law_c43 {p : Program} {l : Launch} {e : Env} {s : State} {m : MethodId} {below : List Frame} {meth : Method} {c : Code} {b L x0 m0 : Nat} {xs : Nat → Int32} {i : Int} {E : (Nat → Prop) → State → Prop} {cy : Nat → ClassId} {D : va_G} (C : gC p s m #[Value.ref b] c code 4 RL) (hXX : fxX E D cy) (hEs : E (fun q : Nat => s.heap.size ≤ q) s) (hX : va_X b L xs s s.heap) (hbl : b < s.heap.size) (hL : L ≤ 3072) (hi : 0 ≤ i) (hi6 : i + 6 ≤ L) (kk : lawG p l e s m below meth c b 1570 [(0, .ref b), (1, .ref x0), (2, .ref m0), (3, zv i)] [] (lP cy D (fun q : Nat => s.heap.size ≤ q) s.heap x0 m0)) : lawG p l e s m below meth c b 1435 [(0, .ref b), (1, .ref x0), (2, .ref m0), (3, zv i)] [] (lP cy D (fun q : Nat => s.heap.size ≤ q) s.heap x0 m0) := by
  have hE := hXX.1
  have hA : ∀ q : Nat, s.heap.size ≤ q → (fun q : Nat => s.heap.size ≤ q) q := fun _ h => h
  have hbA : ¬ (fun q : Nat => s.heap.size ≤ q) b := Nat.not_le.mpr hbl
  refine l_ex (fun t => ?_)
  refine gq_aln C 1 dL_law_1435 rfl rfl rfl ?_
  refine gq_aln C 0 dL_law_1436 rfl rfl rfl ?_
  refine gq_iln C 3 dL_law_1437 rfl rfl rfl ?_
  refine gq_ic C dL_law_1438 rfl ?_
  refine gq_add C dL_law_1439 rfl ?_
  refine l_sld C hX hbl hbA hL (by omega) (by omega) dL_law_1440 rfl ?_
  refine gq_aln C 0 dL_law_1441 rfl rfl rfl ?_
  refine gq_iln C 3 dL_law_1442 rfl rfl rfl ?_
  refine gq_ic C dL_law_1443 rfl ?_
  refine gq_add C dL_law_1444 rfl ?_
  refine l_sld C hX hbl hbA hL (by omega) (by omega) dL_law_1445 rfl ?_
  refine l_x (ts := [.inl (-2147483648, 2147483647), .inl (-2147483648, 2147483647)]) (As := [zv (xs (Int.toNat (i + 1))).toInt, zv (xs (Int.toNat (i + 2))).toInt]) (rest := []) C hE hEs rfl hA (fun gx ax => kx402 hXX) rfl ⟨by decide, by decide⟩ rfl (fun gs ad => ⟨ok_top _, ok_top _, trivial⟩) (ret_ok rfl) ⟨Nat.le_of_ble_eq_true rfl, Nat.le_of_ble_eq_true rfl⟩ ⟨Nat.le_of_ble_eq_true rfl, Nat.le_of_ble_eq_true rfl⟩ iV_X11_sure g_L_193 dL_law_1446 rfl rfl (Nat.le_of_ble_eq_true rfl) rfl (fun z1446 => ?_)
  refine gq_pop C dL_law_1449 rfl rfl ?_
  refine gq_aln C 2 dL_law_1450 rfl rfl rfl ?_
  refine gq_aln C 0 dL_law_1451 rfl rfl rfl ?_
  refine gq_iln C 3 dL_law_1452 rfl rfl rfl ?_
  refine gq_ic C dL_law_1453 rfl ?_
  refine gq_add C dL_law_1454 rfl ?_
  refine l_sld C hX hbl hbA hL (by omega) (by omega) dL_law_1455 rfl ?_
  refine gq_aln C 0 dL_law_1456 rfl rfl rfl ?_
  refine gq_iln C 3 dL_law_1457 rfl rfl rfl ?_
  refine gq_ic C dL_law_1458 rfl ?_
  refine gq_add C dL_law_1459 rfl ?_
  refine l_sld C hX hbl hbA hL (by omega) (by omega) dL_law_1460 rfl ?_
  refine l_m (As := [zv (xs (Int.toNat (i + 1))).toInt, zv (xs (Int.toNat (i + 2))).toInt]) (rest := []) C hE hEs rfl hA (mc_fx (fun am => km282 hE) rfl (by decide +kernel) ⟨by decide, by decide, by decide⟩ (fun am ha => (show fx_ty _ am [.inr (.inr 1), .inl (-2147483648, 2147483647), .inl (-2147483648, 2147483647)] [.ref m0, zv (xs (Int.toNat (i + 1))).toInt, zv (xs (Int.toNat (i + 2))).toInt] from oks_ok ⟨rt_ok ⟨0, ha, rfl⟩ (by decide), ok_top _, ok_top _, trivial⟩)) (ret_ok rfl)) ⟨Nat.le_of_ble_eq_true rfl, Nat.le_of_ble_eq_true rfl⟩ ⟨Nat.le_of_ble_eq_true rfl, Nat.le_of_ble_eq_true rfl⟩ iV_X12_sure g_L_196 dL_law_1461 rfl rfl (Nat.le_of_ble_eq_true rfl) rfl (fun z1461 => ?_)
  refine gq_pop C dL_law_1464 rfl rfl ?_
  refine gq_goto C 1570 dL_law_1465 (by decide) ?_
  exact l_in kk
set_option maxRecDepth 100000 in
set_option maxHeartbeats 4000000 in
theorem law_c44 {p : Program} {l : Launch} {e : Env} {s : State} {m : MethodId} {below : List Frame} {meth : Method} {c : Code} {b L x0 m0 : Nat} {xs : Nat → Int32} {i : Int} {E : (Nat → Prop) → State → Prop} {cy : Nat → ClassId} {D : va_G} (C : gC p s m #[Value.ref b] c code 4 RL) (hXX : fxX E D cy) (hEs : E (fun q : Nat => s.heap.size ≤ q) s) (hX : va_X b L xs s s.heap) (hbl : b < s.heap.size) (hL : L ≤ 3072) (hi : 0 ≤ i) (hi6 : i + 6 ≤ L) (kk : lawG p l e s m below meth c b 1570 [(0, .ref b), (1, .ref x0), (2, .ref m0), (3, zv i)] [] (lP cy D (fun q : Nat => s.heap.size ≤ q) s.heap x0 m0)) : lawG p l e s m below meth c b 1468 [(0, .ref b), (1, .ref x0), (2, .ref m0), (3, zv i)] [] (lP cy D (fun q : Nat => s.heap.size ≤ q) s.heap x0 m0) := by
  have hE := hXX.1
  have hA : ∀ q : Nat, s.heap.size ≤ q → (fun q : Nat => s.heap.size ≤ q) q := fun _ h => h
  have hbA : ¬ (fun q : Nat => s.heap.size ≤ q) b := Nat.not_le.mpr hbl
  refine l_ex (fun t => ?_)
  refine gq_aln C 1 dL_law_1468 rfl rfl rfl ?_
  refine gq_aln C 0 dL_law_1469 rfl rfl rfl ?_
  refine gq_iln C 3 dL_law_1470 rfl rfl rfl ?_
  refine gq_ic C dL_law_1471 rfl ?_
  refine gq_add C dL_law_1472 rfl ?_
  refine l_sld C hX hbl hbA hL (by omega) (by omega) dL_law_1473 rfl ?_
  refine gq_aln C 0 dL_law_1474 rfl rfl rfl ?_
  refine gq_iln C 3 dL_law_1475 rfl rfl rfl ?_
  refine gq_ic C dL_law_1476 rfl ?_
  refine gq_add C dL_law_1477 rfl ?_
  refine l_sld C hX hbl hbA hL (by omega) (by omega) dL_law_1478 rfl ?_
  refine l_x (ts := [.inl (-2147483648, 2147483647), .inl (-2147483648, 2147483647)]) (As := [zv (xs (Int.toNat (i + 1))).toInt, zv (xs (Int.toNat (i + 2))).toInt]) (rest := []) C hE hEs rfl hA (fun gx ax => kx405 hXX) rfl ⟨by decide, by decide⟩ rfl (fun gs ad => ⟨ok_top _, ok_top _, trivial⟩) (ret_ok rfl) ⟨Nat.le_of_ble_eq_true rfl, Nat.le_of_ble_eq_true rfl⟩ ⟨Nat.le_of_ble_eq_true rfl, Nat.le_of_ble_eq_true rfl⟩ iV_X11_ask g_L_197 dL_law_1479 rfl rfl (Nat.le_of_ble_eq_true rfl) rfl (fun z1479 => ?_)
  refine gq_pop C dL_law_1482 rfl rfl ?_
  refine gq_aln C 2 dL_law_1483 rfl rfl rfl ?_
  refine gq_aln C 0 dL_law_1484 rfl rfl rfl ?_
  refine gq_iln C 3 dL_law_1485 rfl rfl rfl ?_
  refine gq_ic C dL_law_1486 rfl ?_
  refine gq_add C dL_law_1487 rfl ?_
  refine l_sld C hX hbl hbA hL (by omega) (by omega) dL_law_1488 rfl ?_
  refine gq_aln C 0 dL_law_1489 rfl rfl rfl ?_
  refine gq_iln C 3 dL_law_1490 rfl rfl rfl ?_
  refine gq_ic C dL_law_1491 rfl ?_
  refine gq_add C dL_law_1492 rfl ?_
  refine l_sld C hX hbl hbA hL (by omega) (by omega) dL_law_1493 rfl ?_
  refine l_m (As := [zv (xs (Int.toNat (i + 1))).toInt, zv (xs (Int.toNat (i + 2))).toInt]) (rest := []) C hE hEs rfl hA (mc_fx (fun am => km283 hE) rfl (by decide +kernel) ⟨by decide, by decide, by decide⟩ (fun am ha => (show fx_ty _ am [.inr (.inr 1), .inl (-2147483648, 2147483647), .inl (-2147483648, 2147483647)] [.ref m0, zv (xs (Int.toNat (i + 1))).toInt, zv (xs (Int.toNat (i + 2))).toInt] from oks_ok ⟨rt_ok ⟨0, ha, rfl⟩ (by decide), ok_top _, ok_top _, trivial⟩)) (ret_ok rfl)) ⟨Nat.le_of_ble_eq_true rfl, Nat.le_of_ble_eq_true rfl⟩ ⟨Nat.le_of_ble_eq_true rfl, Nat.le_of_ble_eq_true rfl⟩ iV_X12_ask g_L_200 dL_law_1494 rfl rfl (Nat.le_of_ble_eq_true rfl) rfl (fun z1494 => ?_)
  refine gq_pop C dL_law_1497 rfl rfl ?_
  refine gq_goto C 1570 dL_law_1498 (by decide) ?_
  exact l_in kk
set_option maxRecDepth 100000 in
set_option maxHeartbeats 4000000 in
theorem law_c45 {p : Program} {l : Launch} {e : Env} {s : State} {m : MethodId} {below : List Frame} {meth : Method} {c : Code} {b L x0 m0 : Nat} {xs : Nat → Int32} {i : Int} {E : (Nat → Prop) → State → Prop} {cy : Nat → ClassId} {D : va_G} (C : gC p s m #[Value.ref b] c code 4 RL) (hXX : fxX E D cy) (hEs : E (fun q : Nat => s.heap.size ≤ q) s) (hX : va_X b L xs s s.heap) (hbl : b < s.heap.size) (hL : L ≤ 3072) (hi : 0 ≤ i) (hi6 : i + 6 ≤ L) (kk : lawG p l e s m below meth c b 1570 [(0, .ref b), (1, .ref x0), (2, .ref m0), (3, zv i)] [] (lP cy D (fun q : Nat => s.heap.size ≤ q) s.heap x0 m0)) : lawG p l e s m below meth c b 1501 [(0, .ref b), (1, .ref x0), (2, .ref m0), (3, zv i)] [] (lP cy D (fun q : Nat => s.heap.size ≤ q) s.heap x0 m0) := by
  have hE := hXX.1
  have hA : ∀ q : Nat, s.heap.size ≤ q → (fun q : Nat => s.heap.size ≤ q) q := fun _ h => h
  have hbA : ¬ (fun q : Nat => s.heap.size ≤ q) b := Nat.not_le.mpr hbl
  refine l_ex (fun t => ?_)
  refine gq_aln C 1 dL_law_1501 rfl rfl rfl ?_
  refine gq_aln C 0 dL_law_1502 rfl rfl rfl ?_
  refine gq_iln C 3 dL_law_1503 rfl rfl rfl ?_
  refine gq_ic C dL_law_1504 rfl ?_
  refine gq_add C dL_law_1505 rfl ?_
  refine l_sld C hX hbl hbA hL (by omega) (by omega) dL_law_1506 rfl ?_
  refine l_x (ts := [.inl (-2147483648, 2147483647)]) (As := [zv (xs (Int.toNat (i + 1))).toInt]) (rest := []) C hE hEs rfl hA (fun gx ax => kx408 hXX) rfl ⟨by decide, by decide⟩ rfl (fun gs ad => ⟨ok_top _, trivial⟩) (ret_ok rfl) ⟨Nat.le_of_ble_eq_true rfl, Nat.le_of_ble_eq_true rfl⟩ ⟨Nat.le_of_ble_eq_true rfl, Nat.le_of_ble_eq_true rfl⟩ iV_X11_image g_L_201 dL_law_1507 rfl rfl (Nat.le_of_ble_eq_true rfl) rfl (fun z1507 => ?_)
  refine gq_pop C dL_law_1510 rfl rfl ?_
  refine gq_aln C 2 dL_law_1511 rfl rfl rfl ?_
  refine gq_aln C 0 dL_law_1512 rfl rfl rfl ?_
  refine gq_iln C 3 dL_law_1513 rfl rfl rfl ?_
  refine gq_ic C dL_law_1514 rfl ?_
  refine gq_add C dL_law_1515 rfl ?_
  refine l_sld C hX hbl hbA hL (by omega) (by omega) dL_law_1516 rfl ?_
  refine l_m (As := [zv (xs (Int.toNat (i + 1))).toInt]) (rest := []) C hE hEs rfl hA (mc_fx (fun am => km284 hE) rfl (by decide +kernel) ⟨by decide, by decide, by decide⟩ (fun am ha => (show fx_ty _ am [.inr (.inr 1), .inl (-2147483648, 2147483647)] [.ref m0, zv (xs (Int.toNat (i + 1))).toInt] from oks_ok ⟨rt_ok ⟨0, ha, rfl⟩ (by decide), ok_top _, trivial⟩)) (ret_ok rfl)) ⟨Nat.le_of_ble_eq_true rfl, Nat.le_of_ble_eq_true rfl⟩ ⟨Nat.le_of_ble_eq_true rfl, Nat.le_of_ble_eq_true rfl⟩ iV_X12_image g_L_204 dL_law_1517 rfl rfl (Nat.le_of_ble_eq_true rfl) rfl (fun z1517 => ?_)
  refine gq_pop C dL_law_1520 rfl rfl ?_
  refine gq_goto C 1570 dL_law_1521 (by decide) ?_
  exact l_in kk
set_option maxRecDepth 100000 in
set_option maxHeartbeats 4000000 in
theorem law_c46 {p : Program} {l : Launch} {e : Env} {s : State} {m : MethodId} {below : List Frame} {meth : Method} {c : Code} {b L x0 m0 : Nat} {xs : Nat → Int32} {i : Int} {E : (Nat → Prop) → State → Prop} {cy : Nat → ClassId} {D : va_G} (C : gC p s m #[Value.ref b] c code 4 RL) (hXX : fxX E D cy) (hEs : E (fun q : Nat => s.heap.size ≤ q) s) (hX : va_X b L xs s s.heap) (hbl : b < s.heap.size) (hL : L ≤ 3072) (hi : 0 ≤ i) (hi6 : i + 6 ≤ L) (kk : lawG p l e s m below meth c b 1570 [(0, .ref b), (1, .ref x0), (2, .ref m0), (3, zv i)] [] (lP cy D (fun q : Nat => s.heap.size ≤ q) s.heap x0 m0)) : lawG p l e s m below meth c b 1524 [(0, .ref b), (1, .ref x0), (2, .ref m0), (3, zv i)] [] (lP cy D (fun q : Nat => s.heap.size ≤ q) s.heap x0 m0) := by
  have hE := hXX.1
  have hA : ∀ q : Nat, s.heap.size ≤ q → (fun q : Nat => s.heap.size ≤ q) q := fun _ h => h
  have hbA : ¬ (fun q : Nat => s.heap.size ≤ q) b := Nat.not_le.mpr hbl
  refine l_ex (fun t => ?_)
  refine gq_aln C 1 dL_law_1524 rfl rfl rfl ?_
  refine gq_aln C 0 dL_law_1525 rfl rfl rfl ?_
  refine gq_iln C 3 dL_law_1526 rfl rfl rfl ?_
  refine gq_ic C dL_law_1527 rfl ?_
  refine gq_add C dL_law_1528 rfl ?_
  refine l_sld C hX hbl hbA hL (by omega) (by omega) dL_law_1529 rfl ?_
  refine l_x (ts := [.inl (-2147483648, 2147483647)]) (As := [zv (xs (Int.toNat (i + 1))).toInt]) (rest := []) C hE hEs rfl hA (fun gx ax => kx410 hXX) rfl ⟨by decide, by decide⟩ rfl (fun gs ad => ⟨ok_top _, trivial⟩) (ret_ok rfl) ⟨Nat.le_of_ble_eq_true rfl, Nat.le_of_ble_eq_true rfl⟩ ⟨Nat.le_of_ble_eq_true rfl, Nat.le_of_ble_eq_true rfl⟩ iV_X11_back g_L_205 dL_law_1530 rfl rfl (Nat.le_of_ble_eq_true rfl) rfl (fun z1530 => ?_)
  refine gq_pop C dL_law_1533 rfl rfl ?_
  refine gq_aln C 2 dL_law_1534 rfl rfl rfl ?_
  refine gq_aln C 0 dL_law_1535 rfl rfl rfl ?_
  refine gq_iln C 3 dL_law_1536 rfl rfl rfl ?_
  refine gq_ic C dL_law_1537 rfl ?_
  refine gq_add C dL_law_1538 rfl ?_
  refine l_sld C hX hbl hbA hL (by omega) (by omega) dL_law_1539 rfl ?_
  refine l_m (As := [zv (xs (Int.toNat (i + 1))).toInt]) (rest := []) C hE hEs rfl hA (mc_h (fun am ha => h_back hE m0 _ ha (rg_t _)) (fun wm hJ => ⟨rfl, trivial⟩) (fun am wm wm1 rv ha hw hw1 hJ hp => by obtain ⟨sm, ⟨z, rfl⟩, hc⟩ := hp; exact ⟨JM_sm hw hw1 sm (by have h1 := hJ.1; unfold imAU at h1 ⊢; omega) (by decide +kernel) hJ, sm_f hw hw1 sm (by decide), z, rfl⟩)) ⟨Nat.le_of_ble_eq_true rfl, Nat.le_of_ble_eq_true rfl⟩ ⟨Nat.le_of_ble_eq_true rfl, Nat.le_of_ble_eq_true rfl⟩ iV_X12_back g_L_208 dL_law_1540 rfl rfl (Nat.le_of_ble_eq_true rfl) rfl (fun z1540 => ?_)
  refine gq_pop C dL_law_1543 rfl rfl ?_
  refine gq_goto C 1570 dL_law_1544 (by decide) ?_
  exact l_in kk
set_option maxRecDepth 100000 in
set_option maxHeartbeats 4000000 in
theorem law_c47 {p : Program} {l : Launch} {e : Env} {s : State} {m : MethodId} {below : List Frame} {meth : Method} {c : Code} {b L x0 m0 : Nat} {xs : Nat → Int32} {i : Int} {E : (Nat → Prop) → State → Prop} {cy : Nat → ClassId} {D : va_G} (C : gC p s m #[Value.ref b] c code 4 RL) (hXX : fxX E D cy) (hEs : E (fun q : Nat => s.heap.size ≤ q) s) (hX : va_X b L xs s s.heap) (hbl : b < s.heap.size) (hL : L ≤ 3072) (hi : 0 ≤ i) (hi6 : i + 6 ≤ L) (kk : lawG p l e s m below meth c b 1570 [(0, .ref b), (1, .ref x0), (2, .ref m0), (3, zv i)] [] (lP cy D (fun q : Nat => s.heap.size ≤ q) s.heap x0 m0)) : lawG p l e s m below meth c b 1547 [(0, .ref b), (1, .ref x0), (2, .ref m0), (3, zv i)] [] (lP cy D (fun q : Nat => s.heap.size ≤ q) s.heap x0 m0) := by
  have hE := hXX.1
  have hA : ∀ q : Nat, s.heap.size ≤ q → (fun q : Nat => s.heap.size ≤ q) q := fun _ h => h
  have hbA : ¬ (fun q : Nat => s.heap.size ≤ q) b := Nat.not_le.mpr hbl
  refine l_ex (fun t => ?_)
  refine gq_aln C 1 dL_law_1547 rfl rfl rfl ?_
  refine gq_aln C 0 dL_law_1548 rfl rfl rfl ?_
  refine gq_iln C 3 dL_law_1549 rfl rfl rfl ?_
  refine gq_ic C dL_law_1550 rfl ?_
  refine gq_add C dL_law_1551 rfl ?_
  refine l_sld C hX hbl hbA hL (by omega) (by omega) dL_law_1552 rfl ?_
  refine l_x (ts := [.inl (-2147483648, 2147483647)]) (As := [zv (xs (Int.toNat (i + 1))).toInt]) (rest := []) C hE hEs rfl hA (fun gx ax => kx413 hXX) rfl ⟨by decide, by decide⟩ rfl (fun gs ad => ⟨ok_top _, trivial⟩) (ret_ok rfl) ⟨Nat.le_of_ble_eq_true rfl, Nat.le_of_ble_eq_true rfl⟩ ⟨Nat.le_of_ble_eq_true rfl, Nat.le_of_ble_eq_true rfl⟩ iV_X11_about g_L_209 dL_law_1553 rfl rfl (Nat.le_of_ble_eq_true rfl) rfl (fun z1553 => ?_)
  refine gq_pop C dL_law_1556 rfl rfl ?_
  refine gq_aln C 2 dL_law_1557 rfl rfl rfl ?_
  refine gq_aln C 0 dL_law_1558 rfl rfl rfl ?_
  refine gq_iln C 3 dL_law_1559 rfl rfl rfl ?_
  refine gq_ic C dL_law_1560 rfl ?_
  refine gq_add C dL_law_1561 rfl ?_
  refine l_sld C hX hbl hbA hL (by omega) (by omega) dL_law_1562 rfl ?_
  refine l_m (As := [zv (xs (Int.toNat (i + 1))).toInt]) (rest := []) C hE hEs rfl hA (mc_fx (fun am => km286 hE) rfl (by decide +kernel) ⟨by decide, by decide, by decide⟩ (fun am ha => (show fx_ty _ am [.inr (.inr 1), .inl (-2147483648, 2147483647)] [.ref m0, zv (xs (Int.toNat (i + 1))).toInt] from oks_ok ⟨rt_ok ⟨0, ha, rfl⟩ (by decide), ok_top _, trivial⟩)) (ret_ok rfl)) ⟨Nat.le_of_ble_eq_true rfl, Nat.le_of_ble_eq_true rfl⟩ ⟨Nat.le_of_ble_eq_true rfl, Nat.le_of_ble_eq_true rfl⟩ iV_X12_about g_L_212 dL_law_1563 rfl rfl (Nat.le_of_ble_eq_true rfl) rfl (fun z1563 => ?_)
  refine gq_pop C dL_law_1566 rfl rfl ?_
  refine gq_goto C 1570 dL_law_1567 (by decide) ?_
  exact l_in kk
